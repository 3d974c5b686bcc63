theorem dJ7_fill_d0a16_0 : decode cJ7_fill_d0a16 0 = .ok (.iconst 0, 1) := by decide +kernel
theorem dJ7_fill_d0a16_1 : decode cJ7_fill_d0a16 1 = .ok (.istore_n 3, 1) := by decide +kernel
theorem dJ7_fill_d0a16_2 : decode cJ7_fill_d0a16 2 = .ok (.aload_n 0, 1) := by decide +kernel
theorem dJ7_fill_d0a16_3 : decode cJ7_fill_d0a16 3 = .ok (.arraylength, 1) := by decide +kernel
theorem dJ7_fill_d0a16_4 : decode cJ7_fill_d0a16 4 = .ok (.istore 4, 2) := by decide +kernel
theorem dJ7_fill_d0a16_6 : decode cJ7_fill_d0a16 6 = .ok (.iload_n 3, 1) := by decide +kernel
theorem dJ7_fill_d0a16_7 : decode cJ7_fill_d0a16 7 = .ok (.iload 4, 2) := by decide +kernel
theorem dJ7_fill_d0a16_9 : decode cJ7_fill_d0a16 9 = .ok (.if_icmp .ge 13, 3) := by decide +kernel
theorem dJ7_fill_d0a16_12 : decode cJ7_fill_d0a16 12 = .ok (.aload_n 0, 1) := by decide +kernel
theorem dJ7_fill_d0a16_13 : decode cJ7_fill_d0a16 13 = .ok (.iload_n 3, 1) := by decide +kernel
theorem dJ7_fill_d0a16_14 : decode cJ7_fill_d0a16 14 = .ok (.lload_n 1, 1) := by decide +kernel
theorem dJ7_fill_d0a16_15 : decode cJ7_fill_d0a16 15 = .ok (.lastore, 1) := by decide +kernel
theorem dJ7_fill_d0a16_16 : decode cJ7_fill_d0a16 16 = .ok (.iinc 3 1, 3) := by decide +kernel
theorem dJ7_fill_d0a16_19 : decode cJ7_fill_d0a16 19 = .ok (.goto (-13), 3) := by decide +kernel
theorem dJ7_fill_d0a16_22 : decode cJ7_fill_d0a16 22 = .ok (.return_, 1) := by decide +kernel
theorem dJ7_fill_53178_0 : decode cJ7_fill_53178 0 = .ok (.iconst 0, 1) := by decide +kernel
theorem dJ7_fill_53178_1 : decode cJ7_fill_53178 1 = .ok (.istore_n 2, 1) := by decide +kernel
theorem dJ7_fill_53178_2 : decode cJ7_fill_53178 2 = .ok (.aload_n 0, 1) := by decide +kernel
theorem dJ7_fill_53178_3 : decode cJ7_fill_53178 3 = .ok (.arraylength, 1) := by decide +kernel
theorem dJ7_fill_53178_4 : decode cJ7_fill_53178 4 = .ok (.istore_n 3, 1) := by decide +kernel
theorem dJ7_fill_53178_5 : decode cJ7_fill_53178 5 = .ok (.iload_n 2, 1) := by decide +kernel
theorem dJ7_fill_53178_6 : decode cJ7_fill_53178 6 = .ok (.iload_n 3, 1) := by decide +kernel
theorem dJ7_fill_53178_7 : decode cJ7_fill_53178 7 = .ok (.if_icmp .ge 13, 3) := by decide +kernel
theorem dJ7_fill_53178_10 : decode cJ7_fill_53178 10 = .ok (.aload_n 0, 1) := by decide +kernel
theorem dJ7_fill_53178_11 : decode cJ7_fill_53178 11 = .ok (.iload_n 2, 1) := by decide +kernel
theorem dJ7_fill_53178_12 : decode cJ7_fill_53178 12 = .ok (.iload_n 1, 1) := by decide +kernel
theorem dJ7_fill_53178_13 : decode cJ7_fill_53178 13 = .ok (.iastore, 1) := by decide +kernel
theorem dJ7_fill_53178_14 : decode cJ7_fill_53178 14 = .ok (.iinc 2 1, 3) := by decide +kernel
theorem dJ7_fill_53178_17 : decode cJ7_fill_53178 17 = .ok (.goto (-12), 3) := by decide +kernel
theorem dJ7_fill_53178_20 : decode cJ7_fill_53178 20 = .ok (.return_, 1) := by decide +kernel
theorem dX0_init_0 : decode cX0_init 0 = .ok (.aload_n 0, 1) := by decide +kernel
theorem dX0_init_1 : decode cX0_init 1 = .ok (.invokespecial 3, 3) := by decide +kernel
theorem dX0_init_4 : decode cX0_init 4 = .ok (.aload_n 0, 1) := by decide +kernel
theorem dX0_init_5 : decode cX0_init 5 = .ok (.iconst 4, 1) := by decide +kernel
theorem dX0_init_6 : decode cX0_init 6 = .ok (.bipush 8, 2) := by decide +kernel
theorem dX0_init_8 : decode cX0_init 8 = .ok (.multianewarray 9 2, 4) := by decide +kernel
theorem dX0_init_12 : decode cX0_init 12 = .ok (.putfield 11, 3) := by decide +kernel
theorem dX0_init_15 : decode cX0_init 15 = .ok (.aload_n 0, 1) := by decide +kernel
theorem dX0_init_16 : decode cX0_init 16 = .ok (.iconst 4, 1) := by decide +kernel
theorem dX0_init_17 : decode cX0_init 17 = .ok (.newarray .long, 2) := by decide +kernel
theorem dX0_init_19 : decode cX0_init 19 = .ok (.putfield 16, 3) := by decide +kernel
theorem dX0_init_22 : decode cX0_init 22 = .ok (.aload_n 0, 1) := by decide +kernel
theorem dX0_init_23 : decode cX0_init 23 = .ok (.bipush 8, 2) := by decide +kernel
theorem dX0_init_25 : decode cX0_init 25 = .ok (.newarray .long, 2) := by decide +kernel
theorem dX0_init_27 : decode cX0_init 27 = .ok (.putfield 20, 3) := by decide +kernel
theorem dX0_init_30 : decode cX0_init 30 = .ok (.aload_n 0, 1) := by decide +kernel
theorem dX0_init_31 : decode cX0_init 31 = .ok (.lconst 1, 1) := by decide +kernel
theorem dX0_init_32 : decode cX0_init 32 = .ok (.putfield 23, 3) := by decide +kernel
theorem dX0_init_35 : decode cX0_init 35 = .ok (.return_, 1) := by decide +kernel
theorem dX0_clear_0 : decode cX0_clear 0 = .ok (.iconst 0, 1) := by decide +kernel
theorem dX0_clear_1 : decode cX0_clear 1 = .ok (.istore_n 1, 1) := by decide +kernel
theorem dX0_clear_2 : decode cX0_clear 2 = .ok (.iload_n 1, 1) := by decide +kernel
theorem dX0_clear_3 : decode cX0_clear 3 = .ok (.iconst 4, 1) := by decide +kernel
theorem dX0_clear_4 : decode cX0_clear 4 = .ok (.if_icmp .ge 30, 3) := by decide +kernel
theorem dX0_clear_7 : decode cX0_clear 7 = .ok (.aload_n 0, 1) := by decide +kernel
theorem dX0_clear_8 : decode cX0_clear 8 = .ok (.getfield 11, 3) := by decide +kernel
theorem dX0_clear_11 : decode cX0_clear 11 = .ok (.iload_n 1, 1) := by decide +kernel
theorem dX0_clear_12 : decode cX0_clear 12 = .ok (.aaload, 1) := by decide +kernel
theorem dX0_clear_13 : decode cX0_clear 13 = .ok (.lconst 0, 1) := by decide +kernel
theorem dX0_clear_14 : decode cX0_clear 14 = .ok (.invokestatic 27, 3) := by decide +kernel
theorem dX0_clear_17 : decode cX0_clear 17 = .ok (.aload_n 0, 1) := by decide +kernel
theorem dX0_clear_18 : decode cX0_clear 18 = .ok (.getfield 11, 3) := by decide +kernel
theorem dX0_clear_21 : decode cX0_clear 21 = .ok (.iload_n 1, 1) := by decide +kernel
theorem dX0_clear_22 : decode cX0_clear 22 = .ok (.aaload, 1) := by decide +kernel
theorem dX0_clear_23 : decode cX0_clear 23 = .ok (.iconst 4, 1) := by decide +kernel
theorem dX0_clear_24 : decode cX0_clear 24 = .ok (.iload_n 1, 1) := by decide +kernel
theorem dX0_clear_25 : decode cX0_clear 25 = .ok (.iadd, 1) := by decide +kernel
theorem dX0_clear_26 : decode cX0_clear 26 = .ok (.lconst 1, 1) := by decide +kernel
theorem dX0_clear_27 : decode cX0_clear 27 = .ok (.lastore, 1) := by decide +kernel
theorem dX0_clear_28 : decode cX0_clear 28 = .ok (.iinc 1 1, 3) := by decide +kernel
theorem dX0_clear_31 : decode cX0_clear 31 = .ok (.goto (-29), 3) := by decide +kernel
theorem dX0_clear_34 : decode cX0_clear 34 = .ok (.aload_n 0, 1) := by decide +kernel
theorem dX0_clear_35 : decode cX0_clear 35 = .ok (.getfield 20, 3) := by decide +kernel
theorem dX0_clear_38 : decode cX0_clear 38 = .ok (.lconst 0, 1) := by decide +kernel
theorem dX0_clear_39 : decode cX0_clear 39 = .ok (.invokestatic 27, 3) := by decide +kernel
theorem dX0_clear_42 : decode cX0_clear 42 = .ok (.aload_n 0, 1) := by decide +kernel
theorem dX0_clear_43 : decode cX0_clear 43 = .ok (.lconst 1, 1) := by decide +kernel
theorem dX0_clear_44 : decode cX0_clear 44 = .ok (.putfield 23, 3) := by decide +kernel
theorem dX0_clear_47 : decode cX0_clear 47 = .ok (.return_, 1) := by decide +kernel
theorem dX0_addRoad_0 : decode cX0_addRoad 0 = .ok (.iload_n 1, 1) := by decide +kernel
theorem dX0_addRoad_1 : decode cX0_addRoad 1 = .ok (.iconst 4, 1) := by decide +kernel
theorem dX0_addRoad_2 : decode cX0_addRoad 2 = .ok (.if_icmp .ge 16, 3) := by decide +kernel
theorem dX0_addRoad_5 : decode cX0_addRoad 5 = .ok (.aload_n 0, 1) := by decide +kernel
theorem dX0_addRoad_6 : decode cX0_addRoad 6 = .ok (.getfield 11, 3) := by decide +kernel
theorem dX0_addRoad_9 : decode cX0_addRoad 9 = .ok (.iload_n 1, 1) := by decide +kernel
theorem dX0_addRoad_10 : decode cX0_addRoad 10 = .ok (.aaload, 1) := by decide +kernel
theorem dX0_addRoad_11 : decode cX0_addRoad 11 = .ok (.iload_n 1, 1) := by decide +kernel
theorem dX0_addRoad_12 : decode cX0_addRoad 12 = .ok (.dup2, 1) := by decide +kernel
theorem dX0_addRoad_13 : decode cX0_addRoad 13 = .ok (.laload, 1) := by decide +kernel
theorem dX0_addRoad_14 : decode cX0_addRoad 14 = .ok (.iload_n 3, 1) := by decide +kernel
theorem dX0_addRoad_15 : decode cX0_addRoad 15 = .ok (.i2l, 1) := by decide +kernel
theorem dX0_addRoad_16 : decode cX0_addRoad 16 = .ok (.ladd, 1) := by decide +kernel
theorem dX0_addRoad_17 : decode cX0_addRoad 17 = .ok (.lastore, 1) := by decide +kernel
theorem dX0_addRoad_18 : decode cX0_addRoad 18 = .ok (.iload_n 2, 1) := by decide +kernel
theorem dX0_addRoad_19 : decode cX0_addRoad 19 = .ok (.iconst 4, 1) := by decide +kernel
theorem dX0_addRoad_20 : decode cX0_addRoad 20 = .ok (.if_icmp .ge 16, 3) := by decide +kernel
theorem dX0_addRoad_23 : decode cX0_addRoad 23 = .ok (.aload_n 0, 1) := by decide +kernel
theorem dX0_addRoad_24 : decode cX0_addRoad 24 = .ok (.getfield 11, 3) := by decide +kernel
theorem dX0_addRoad_27 : decode cX0_addRoad 27 = .ok (.iload_n 2, 1) := by decide +kernel
theorem dX0_addRoad_28 : decode cX0_addRoad 28 = .ok (.aaload, 1) := by decide +kernel
theorem dX0_addRoad_29 : decode cX0_addRoad 29 = .ok (.iload_n 2, 1) := by decide +kernel
theorem dX0_addRoad_30 : decode cX0_addRoad 30 = .ok (.dup2, 1) := by decide +kernel
theorem dX0_addRoad_31 : decode cX0_addRoad 31 = .ok (.laload, 1) := by decide +kernel
theorem dX0_addRoad_32 : decode cX0_addRoad 32 = .ok (.iload_n 3, 1) := by decide +kernel
theorem dX0_addRoad_33 : decode cX0_addRoad 33 = .ok (.i2l, 1) := by decide +kernel
theorem dX0_addRoad_34 : decode cX0_addRoad 34 = .ok (.ladd, 1) := by decide +kernel
theorem dX0_addRoad_35 : decode cX0_addRoad 35 = .ok (.lastore, 1) := by decide +kernel
theorem dX0_addRoad_36 : decode cX0_addRoad 36 = .ok (.iload_n 1, 1) := by decide +kernel
theorem dX0_addRoad_37 : decode cX0_addRoad 37 = .ok (.iconst 4, 1) := by decide +kernel
theorem dX0_addRoad_38 : decode cX0_addRoad 38 = .ok (.if_icmp .ge 34, 3) := by decide +kernel
theorem dX0_addRoad_41 : decode cX0_addRoad 41 = .ok (.iload_n 2, 1) := by decide +kernel
theorem dX0_addRoad_42 : decode cX0_addRoad 42 = .ok (.iconst 4, 1) := by decide +kernel
theorem dX0_addRoad_43 : decode cX0_addRoad 43 = .ok (.if_icmp .ge 29, 3) := by decide +kernel
theorem dX0_addRoad_46 : decode cX0_addRoad 46 = .ok (.aload_n 0, 1) := by decide +kernel
theorem dX0_addRoad_47 : decode cX0_addRoad 47 = .ok (.getfield 11, 3) := by decide +kernel
theorem dX0_addRoad_50 : decode cX0_addRoad 50 = .ok (.iload_n 1, 1) := by decide +kernel
theorem dX0_addRoad_51 : decode cX0_addRoad 51 = .ok (.aaload, 1) := by decide +kernel
theorem dX0_addRoad_52 : decode cX0_addRoad 52 = .ok (.iload_n 2, 1) := by decide +kernel
theorem dX0_addRoad_53 : decode cX0_addRoad 53 = .ok (.dup2, 1) := by decide +kernel
theorem dX0_addRoad_54 : decode cX0_addRoad 54 = .ok (.laload, 1) := by decide +kernel
theorem dX0_addRoad_55 : decode cX0_addRoad 55 = .ok (.iload_n 3, 1) := by decide +kernel
theorem dX0_addRoad_56 : decode cX0_addRoad 56 = .ok (.i2l, 1) := by decide +kernel
theorem dX0_addRoad_57 : decode cX0_addRoad 57 = .ok (.lsub, 1) := by decide +kernel
theorem dX0_addRoad_58 : decode cX0_addRoad 58 = .ok (.lastore, 1) := by decide +kernel
theorem dX0_addRoad_59 : decode cX0_addRoad 59 = .ok (.aload_n 0, 1) := by decide +kernel
theorem dX0_addRoad_60 : decode cX0_addRoad 60 = .ok (.getfield 11, 3) := by decide +kernel
theorem dX0_addRoad_63 : decode cX0_addRoad 63 = .ok (.iload_n 2, 1) := by decide +kernel
theorem dX0_addRoad_64 : decode cX0_addRoad 64 = .ok (.aaload, 1) := by decide +kernel
theorem dX0_addRoad_65 : decode cX0_addRoad 65 = .ok (.iload_n 1, 1) := by decide +kernel
theorem dX0_addRoad_66 : decode cX0_addRoad 66 = .ok (.dup2, 1) := by decide +kernel
theorem dX0_addRoad_67 : decode cX0_addRoad 67 = .ok (.laload, 1) := by decide +kernel
theorem dX0_addRoad_68 : decode cX0_addRoad 68 = .ok (.iload_n 3, 1) := by decide +kernel
theorem dX0_addRoad_69 : decode cX0_addRoad 69 = .ok (.i2l, 1) := by decide +kernel
theorem dX0_addRoad_70 : decode cX0_addRoad 70 = .ok (.lsub, 1) := by decide +kernel
theorem dX0_addRoad_71 : decode cX0_addRoad 71 = .ok (.lastore, 1) := by decide +kernel
theorem dX0_addRoad_72 : decode cX0_addRoad 72 = .ok (.return_, 1) := by decide +kernel
theorem dX0_setExcess_0 : decode cX0_setExcess 0 = .ok (.aload_n 0, 1) := by decide +kernel
theorem dX0_setExcess_1 : decode cX0_setExcess 1 = .ok (.getfield 16, 3) := by decide +kernel
theorem dX0_setExcess_4 : decode cX0_setExcess 4 = .ok (.iload_n 1, 1) := by decide +kernel
theorem dX0_setExcess_5 : decode cX0_setExcess 5 = .ok (.iload_n 2, 1) := by decide +kernel
theorem dX0_setExcess_6 : decode cX0_setExcess 6 = .ok (.i2l, 1) := by decide +kernel
theorem dX0_setExcess_7 : decode cX0_setExcess 7 = .ok (.lastore, 1) := by decide +kernel
theorem dX0_setExcess_8 : decode cX0_setExcess 8 = .ok (.return_, 1) := by decide +kernel
theorem dX0_settle_0 : decode cX0_settle 0 = .ok (.iconst 0, 1) := by decide +kernel
theorem dX0_settle_1 : decode cX0_settle 1 = .ok (.istore_n 1, 1) := by decide +kernel
theorem dX0_settle_2 : decode cX0_settle 2 = .ok (.iload_n 1, 1) := by decide +kernel
theorem dX0_settle_3 : decode cX0_settle 3 = .ok (.iconst 4, 1) := by decide +kernel
theorem dX0_settle_4 : decode cX0_settle 4 = .ok (.if_icmp .ge 14, 3) := by decide +kernel
theorem dX0_settle_7 : decode cX0_settle 7 = .ok (.aload_n 0, 1) := by decide +kernel
theorem dX0_settle_8 : decode cX0_settle 8 = .ok (.iload_n 1, 1) := by decide +kernel
theorem dX0_settle_9 : decode cX0_settle 9 = .ok (.invokevirtual 33, 3) := by decide +kernel
theorem dX0_settle_12 : decode cX0_settle 12 = .ok (.iinc 1 1, 3) := by decide +kernel
theorem dX0_settle_15 : decode cX0_settle 15 = .ok (.goto (-13), 3) := by decide +kernel
theorem dX0_settle_18 : decode cX0_settle 18 = .ok (.iconst 0, 1) := by decide +kernel
theorem dX0_settle_19 : decode cX0_settle 19 = .ok (.istore_n 1, 1) := by decide +kernel
theorem dX0_settle_20 : decode cX0_settle 20 = .ok (.iload_n 1, 1) := by decide +kernel
theorem dX0_settle_21 : decode cX0_settle 21 = .ok (.iconst 4, 1) := by decide +kernel
theorem dX0_settle_22 : decode cX0_settle 22 = .ok (.if_icmp .ge 37, 3) := by decide +kernel
theorem dX0_settle_25 : decode cX0_settle 25 = .ok (.aload_n 0, 1) := by decide +kernel
theorem dX0_settle_26 : decode cX0_settle 26 = .ok (.getfield 20, 3) := by decide +kernel
theorem dX0_settle_29 : decode cX0_settle 29 = .ok (.iload_n 1, 1) := by decide +kernel
theorem dX0_settle_30 : decode cX0_settle 30 = .ok (.aload_n 0, 1) := by decide +kernel
theorem dX0_settle_31 : decode cX0_settle 31 = .ok (.getfield 11, 3) := by decide +kernel
theorem dX0_settle_34 : decode cX0_settle 34 = .ok (.iload_n 1, 1) := by decide +kernel
theorem dX0_settle_35 : decode cX0_settle 35 = .ok (.aaload, 1) := by decide +kernel
theorem dX0_settle_36 : decode cX0_settle 36 = .ok (.iload_n 1, 1) := by decide +kernel
theorem dX0_settle_37 : decode cX0_settle 37 = .ok (.laload, 1) := by decide +kernel
theorem dX0_settle_38 : decode cX0_settle 38 = .ok (.lconst 0, 1) := by decide +kernel
theorem dX0_settle_39 : decode cX0_settle 39 = .ok (.lcmp, 1) := by decide +kernel
theorem dX0_settle_40 : decode cX0_settle 40 = .ok (.ifCond .le 11, 3) := by decide +kernel
theorem dX0_settle_43 : decode cX0_settle 43 = .ok (.aload_n 0, 1) := by decide +kernel
theorem dX0_settle_44 : decode cX0_settle 44 = .ok (.iload_n 1, 1) := by decide +kernel
theorem dX0_settle_45 : decode cX0_settle 45 = .ok (.invokevirtual 37, 3) := by decide +kernel
theorem dX0_settle_48 : decode cX0_settle 48 = .ok (.goto 4, 3) := by decide +kernel
theorem dX0_settle_51 : decode cX0_settle 51 = .ok (.lconst 0, 1) := by decide +kernel
theorem dX0_settle_52 : decode cX0_settle 52 = .ok (.lastore, 1) := by decide +kernel
theorem dX0_settle_53 : decode cX0_settle 53 = .ok (.iinc 1 1, 3) := by decide +kernel
theorem dX0_settle_56 : decode cX0_settle 56 = .ok (.goto (-36), 3) := by decide +kernel
theorem dX0_settle_59 : decode cX0_settle 59 = .ok (.return_, 1) := by decide +kernel
theorem dX0_putAgreed_0 : decode cX0_putAgreed 0 = .ok (.aload 5, 2) := by decide +kernel
theorem dX0_putAgreed_2 : decode cX0_putAgreed 2 = .ok (.iload_n 3, 1) := by decide +kernel
theorem dX0_putAgreed_3 : decode cX0_putAgreed 3 = .ok (.i2l, 1) := by decide +kernel
theorem dX0_putAgreed_4 : decode cX0_putAgreed 4 = .ok (.aload_n 0, 1) := by decide +kernel
theorem dX0_putAgreed_5 : decode cX0_putAgreed 5 = .ok (.getfield 23, 3) := by decide +kernel
theorem dX0_putAgreed_8 : decode cX0_putAgreed 8 = .ok (.lmul, 1) := by decide +kernel
theorem dX0_putAgreed_9 : decode cX0_putAgreed 9 = .ok (.iload 4, 2) := by decide +kernel
theorem dX0_putAgreed_11 : decode cX0_putAgreed 11 = .ok (.i2l, 1) := by decide +kernel
theorem dX0_putAgreed_12 : decode cX0_putAgreed 12 = .ok (.aload_n 0, 1) := by decide +kernel
theorem dX0_putAgreed_13 : decode cX0_putAgreed 13 = .ok (.getfield 20, 3) := by decide +kernel
theorem dX0_putAgreed_16 : decode cX0_putAgreed 16 = .ok (.iload_n 2, 1) := by decide +kernel
theorem dX0_putAgreed_17 : decode cX0_putAgreed 17 = .ok (.laload, 1) := by decide +kernel
theorem dX0_putAgreed_18 : decode cX0_putAgreed 18 = .ok (.aload_n 0, 1) := by decide +kernel
theorem dX0_putAgreed_19 : decode cX0_putAgreed 19 = .ok (.getfield 20, 3) := by decide +kernel
theorem dX0_putAgreed_22 : decode cX0_putAgreed 22 = .ok (.iload_n 1, 1) := by decide +kernel
theorem dX0_putAgreed_23 : decode cX0_putAgreed 23 = .ok (.laload, 1) := by decide +kernel
theorem dX0_putAgreed_24 : decode cX0_putAgreed 24 = .ok (.lsub, 1) := by decide +kernel
theorem dX0_putAgreed_25 : decode cX0_putAgreed 25 = .ok (.lmul, 1) := by decide +kernel
theorem dX0_putAgreed_26 : decode cX0_putAgreed 26 = .ok (.lsub, 1) := by decide +kernel
theorem dX0_putAgreed_27 : decode cX0_putAgreed 27 = .ok (.aload_n 0, 1) := by decide +kernel
theorem dX0_putAgreed_28 : decode cX0_putAgreed 28 = .ok (.getfield 23, 3) := by decide +kernel
theorem dX0_putAgreed_31 : decode cX0_putAgreed 31 = .ok (.invokevirtual 41, 3) := by decide +kernel
theorem dX0_putAgreed_34 : decode cX0_putAgreed 34 = .ok (.return_, 1) := by decide +kernel
theorem dX0_turnOver_0 : decode cX0_turnOver 0 = .ok (.aload_n 0, 1) := by decide +kernel
theorem dX0_turnOver_1 : decode cX0_turnOver 1 = .ok (.getfield 11, 3) := by decide +kernel
theorem dX0_turnOver_4 : decode cX0_turnOver 4 = .ok (.iload_n 1, 1) := by decide +kernel
theorem dX0_turnOver_5 : decode cX0_turnOver 5 = .ok (.aaload, 1) := by decide +kernel
theorem dX0_turnOver_6 : decode cX0_turnOver 6 = .ok (.iload_n 1, 1) := by decide +kernel
theorem dX0_turnOver_7 : decode cX0_turnOver 7 = .ok (.laload, 1) := by decide +kernel
theorem dX0_turnOver_8 : decode cX0_turnOver 8 = .ok (.lstore_n 2, 1) := by decide +kernel
theorem dX0_turnOver_9 : decode cX0_turnOver 9 = .ok (.lload_n 2, 1) := by decide +kernel
theorem dX0_turnOver_10 : decode cX0_turnOver 10 = .ok (.lconst 0, 1) := by decide +kernel
theorem dX0_turnOver_11 : decode cX0_turnOver 11 = .ok (.lcmp, 1) := by decide +kernel
theorem dX0_turnOver_12 : decode cX0_turnOver 12 = .ok (.ifCond .le 12, 3) := by decide +kernel
theorem dX0_turnOver_15 : decode cX0_turnOver 15 = .ok (.aload_n 0, 1) := by decide +kernel
theorem dX0_turnOver_16 : decode cX0_turnOver 16 = .ok (.getfield 23, 3) := by decide +kernel
theorem dX0_turnOver_19 : decode cX0_turnOver 19 = .ok (.lconst 0, 1) := by decide +kernel
theorem dX0_turnOver_20 : decode cX0_turnOver 20 = .ok (.lcmp, 1) := by decide +kernel
theorem dX0_turnOver_21 : decode cX0_turnOver 21 = .ok (.ifCond .gt 4, 3) := by decide +kernel
theorem dX0_turnOver_24 : decode cX0_turnOver 24 = .ok (.return_, 1) := by decide +kernel
theorem dX0_turnOver_25 : decode cX0_turnOver 25 = .ok (.iconst 0, 1) := by decide +kernel
theorem dX0_turnOver_26 : decode cX0_turnOver 26 = .ok (.istore 4, 2) := by decide +kernel
theorem dX0_turnOver_28 : decode cX0_turnOver 28 = .ok (.iload 4, 2) := by decide +kernel
theorem dX0_turnOver_30 : decode cX0_turnOver 30 = .ok (.iconst 4, 1) := by decide +kernel
theorem dX0_turnOver_31 : decode cX0_turnOver 31 = .ok (.if_icmp .ge 82, 3) := by decide +kernel
theorem dX0_turnOver_34 : decode cX0_turnOver 34 = .ok (.iload 4, 2) := by decide +kernel
theorem dX0_turnOver_36 : decode cX0_turnOver 36 = .ok (.iload_n 1, 1) := by decide +kernel
theorem dX0_turnOver_37 : decode cX0_turnOver 37 = .ok (.if_icmp .eq 70, 3) := by decide +kernel
theorem dX0_turnOver_40 : decode cX0_turnOver 40 = .ok (.aload_n 0, 1) := by decide +kernel
theorem dX0_turnOver_41 : decode cX0_turnOver 41 = .ok (.getfield 11, 3) := by decide +kernel
theorem dX0_turnOver_44 : decode cX0_turnOver 44 = .ok (.iload 4, 2) := by decide +kernel
theorem dX0_turnOver_46 : decode cX0_turnOver 46 = .ok (.aaload, 1) := by decide +kernel
theorem dX0_turnOver_47 : decode cX0_turnOver 47 = .ok (.iload_n 1, 1) := by decide +kernel
theorem dX0_turnOver_48 : decode cX0_turnOver 48 = .ok (.laload, 1) := by decide +kernel
theorem dX0_turnOver_49 : decode cX0_turnOver 49 = .ok (.lstore 5, 2) := by decide +kernel
theorem dX0_turnOver_51 : decode cX0_turnOver 51 = .ok (.iconst 0, 1) := by decide +kernel
theorem dX0_turnOver_52 : decode cX0_turnOver 52 = .ok (.istore 7, 2) := by decide +kernel
theorem dX0_turnOver_54 : decode cX0_turnOver 54 = .ok (.iload 7, 2) := by decide +kernel
theorem dX0_turnOver_56 : decode cX0_turnOver 56 = .ok (.bipush 8, 2) := by decide +kernel
theorem dX0_turnOver_58 : decode cX0_turnOver 58 = .ok (.if_icmp .ge 49, 3) := by decide +kernel
theorem dX0_turnOver_61 : decode cX0_turnOver 61 = .ok (.aload_n 0, 1) := by decide +kernel
theorem dX0_turnOver_62 : decode cX0_turnOver 62 = .ok (.getfield 11, 3) := by decide +kernel
theorem dX0_turnOver_65 : decode cX0_turnOver 65 = .ok (.iload 4, 2) := by decide +kernel
theorem dX0_turnOver_67 : decode cX0_turnOver 67 = .ok (.aaload, 1) := by decide +kernel
theorem dX0_turnOver_68 : decode cX0_turnOver 68 = .ok (.iload 7, 2) := by decide +kernel
theorem dX0_turnOver_70 : decode cX0_turnOver 70 = .ok (.lload_n 2, 1) := by decide +kernel
theorem dX0_turnOver_71 : decode cX0_turnOver 71 = .ok (.aload_n 0, 1) := by decide +kernel
theorem dX0_turnOver_72 : decode cX0_turnOver 72 = .ok (.getfield 11, 3) := by decide +kernel
theorem dX0_turnOver_75 : decode cX0_turnOver 75 = .ok (.iload 4, 2) := by decide +kernel
theorem dX0_turnOver_77 : decode cX0_turnOver 77 = .ok (.aaload, 1) := by decide +kernel
theorem dX0_turnOver_78 : decode cX0_turnOver 78 = .ok (.iload 7, 2) := by decide +kernel
theorem dX0_turnOver_80 : decode cX0_turnOver 80 = .ok (.laload, 1) := by decide +kernel
theorem dX0_turnOver_81 : decode cX0_turnOver 81 = .ok (.lmul, 1) := by decide +kernel
theorem dX0_turnOver_82 : decode cX0_turnOver 82 = .ok (.lload 5, 2) := by decide +kernel
theorem dX0_turnOver_84 : decode cX0_turnOver 84 = .ok (.aload_n 0, 1) := by decide +kernel
theorem dX0_turnOver_85 : decode cX0_turnOver 85 = .ok (.getfield 11, 3) := by decide +kernel
theorem dX0_turnOver_88 : decode cX0_turnOver 88 = .ok (.iload_n 1, 1) := by decide +kernel
theorem dX0_turnOver_89 : decode cX0_turnOver 89 = .ok (.aaload, 1) := by decide +kernel
theorem dX0_turnOver_90 : decode cX0_turnOver 90 = .ok (.iload 7, 2) := by decide +kernel
theorem dX0_turnOver_92 : decode cX0_turnOver 92 = .ok (.laload, 1) := by decide +kernel
theorem dX0_turnOver_93 : decode cX0_turnOver 93 = .ok (.lmul, 1) := by decide +kernel
theorem dX0_turnOver_94 : decode cX0_turnOver 94 = .ok (.lsub, 1) := by decide +kernel
theorem dX0_turnOver_95 : decode cX0_turnOver 95 = .ok (.aload_n 0, 1) := by decide +kernel
theorem dX0_turnOver_96 : decode cX0_turnOver 96 = .ok (.getfield 23, 3) := by decide +kernel
theorem dX0_turnOver_99 : decode cX0_turnOver 99 = .ok (.ldiv, 1) := by decide +kernel
theorem dX0_turnOver_100 : decode cX0_turnOver 100 = .ok (.lastore, 1) := by decide +kernel
theorem dX0_turnOver_101 : decode cX0_turnOver 101 = .ok (.iinc 7 1, 3) := by decide +kernel
theorem dX0_turnOver_104 : decode cX0_turnOver 104 = .ok (.goto (-50), 3) := by decide +kernel
theorem dX0_turnOver_107 : decode cX0_turnOver 107 = .ok (.iinc 4 1, 3) := by decide +kernel
theorem dX0_turnOver_110 : decode cX0_turnOver 110 = .ok (.goto (-82), 3) := by decide +kernel
theorem dX0_turnOver_113 : decode cX0_turnOver 113 = .ok (.aload_n 0, 1) := by decide +kernel
theorem dX0_turnOver_114 : decode cX0_turnOver 114 = .ok (.lload_n 2, 1) := by decide +kernel
theorem dX0_turnOver_115 : decode cX0_turnOver 115 = .ok (.putfield 23, 3) := by decide +kernel
theorem dX0_turnOver_118 : decode cX0_turnOver 118 = .ok (.return_, 1) := by decide +kernel
theorem dX0_pullAt_0 : decode cX0_pullAt 0 = .ok (.lconst 0, 1) := by decide +kernel
theorem dX0_pullAt_1 : decode cX0_pullAt 1 = .ok (.lstore_n 2, 1) := by decide +kernel
theorem dX0_pullAt_2 : decode cX0_pullAt 2 = .ok (.iconst 0, 1) := by decide +kernel
theorem dX0_pullAt_3 : decode cX0_pullAt 3 = .ok (.istore 4, 2) := by decide +kernel
theorem dX0_pullAt_5 : decode cX0_pullAt 5 = .ok (.iload 4, 2) := by decide +kernel
theorem dX0_pullAt_7 : decode cX0_pullAt 7 = .ok (.iconst 4, 1) := by decide +kernel
theorem dX0_pullAt_8 : decode cX0_pullAt 8 = .ok (.if_icmp .ge 31, 3) := by decide +kernel
theorem dX0_pullAt_11 : decode cX0_pullAt 11 = .ok (.lload_n 2, 1) := by decide +kernel
theorem dX0_pullAt_12 : decode cX0_pullAt 12 = .ok (.aload_n 0, 1) := by decide +kernel
theorem dX0_pullAt_13 : decode cX0_pullAt 13 = .ok (.getfield 11, 3) := by decide +kernel
theorem dX0_pullAt_16 : decode cX0_pullAt 16 = .ok (.iload_n 1, 1) := by decide +kernel
theorem dX0_pullAt_17 : decode cX0_pullAt 17 = .ok (.aaload, 1) := by decide +kernel
theorem dX0_pullAt_18 : decode cX0_pullAt 18 = .ok (.iconst 4, 1) := by decide +kernel
theorem dX0_pullAt_19 : decode cX0_pullAt 19 = .ok (.iload 4, 2) := by decide +kernel
theorem dX0_pullAt_21 : decode cX0_pullAt 21 = .ok (.iadd, 1) := by decide +kernel
theorem dX0_pullAt_22 : decode cX0_pullAt 22 = .ok (.laload, 1) := by decide +kernel
theorem dX0_pullAt_23 : decode cX0_pullAt 23 = .ok (.aload_n 0, 1) := by decide +kernel
theorem dX0_pullAt_24 : decode cX0_pullAt 24 = .ok (.getfield 16, 3) := by decide +kernel
theorem dX0_pullAt_27 : decode cX0_pullAt 27 = .ok (.iload 4, 2) := by decide +kernel
theorem dX0_pullAt_29 : decode cX0_pullAt 29 = .ok (.laload, 1) := by decide +kernel
theorem dX0_pullAt_30 : decode cX0_pullAt 30 = .ok (.lmul, 1) := by decide +kernel
theorem dX0_pullAt_31 : decode cX0_pullAt 31 = .ok (.ladd, 1) := by decide +kernel
theorem dX0_pullAt_32 : decode cX0_pullAt 32 = .ok (.lstore_n 2, 1) := by decide +kernel
theorem dX0_pullAt_33 : decode cX0_pullAt 33 = .ok (.iinc 4 1, 3) := by decide +kernel
theorem dX0_pullAt_36 : decode cX0_pullAt 36 = .ok (.goto (-31), 3) := by decide +kernel
theorem dX0_pullAt_39 : decode cX0_pullAt 39 = .ok (.lload_n 2, 1) := by decide +kernel
theorem dX0_pullAt_40 : decode cX0_pullAt 40 = .ok (.lreturn, 1) := by decide +kernel
theorem dX1_init_0 : decode cX1_init 0 = .ok (.aload_n 0, 1) := by decide +kernel
theorem dX1_init_1 : decode cX1_init 1 = .ok (.invokespecial 3, 3) := by decide +kernel
theorem dX1_init_4 : decode cX1_init 4 = .ok (.aload_n 0, 1) := by decide +kernel
theorem dX1_init_5 : decode cX1_init 5 = .ok (.sipush 600, 3) := by decide +kernel
theorem dX1_init_8 : decode cX1_init 8 = .ok (.newarray .int, 2) := by decide +kernel
theorem dX1_init_10 : decode cX1_init 10 = .ok (.putfield 9, 3) := by decide +kernel
theorem dX1_init_13 : decode cX1_init 13 = .ok (.aload_n 0, 1) := by decide +kernel
theorem dX1_init_14 : decode cX1_init 14 = .ok (.sipush 600, 3) := by decide +kernel
theorem dX1_init_17 : decode cX1_init 17 = .ok (.newarray .int, 2) := by decide +kernel
theorem dX1_init_19 : decode cX1_init 19 = .ok (.putfield 15, 3) := by decide +kernel
theorem dX1_init_22 : decode cX1_init 22 = .ok (.aload_n 0, 1) := by decide +kernel
theorem dX1_init_23 : decode cX1_init 23 = .ok (.sipush 1800, 3) := by decide +kernel
theorem dX1_init_26 : decode cX1_init 26 = .ok (.newarray .int, 2) := by decide +kernel
theorem dX1_init_28 : decode cX1_init 28 = .ok (.putfield 18, 3) := by decide +kernel
theorem dX1_init_31 : decode cX1_init 31 = .ok (.aload_n 0, 1) := by decide +kernel
theorem dX1_init_32 : decode cX1_init 32 = .ok (.sipush 600, 3) := by decide +kernel
theorem dX1_init_35 : decode cX1_init 35 = .ok (.newarray .int, 2) := by decide +kernel
theorem dX1_init_37 : decode cX1_init 37 = .ok (.putfield 21, 3) := by decide +kernel
theorem dX1_init_40 : decode cX1_init 40 = .ok (.aload_n 0, 1) := by decide +kernel
theorem dX1_init_41 : decode cX1_init 41 = .ok (.sipush 1344, 3) := by decide +kernel
theorem dX1_init_44 : decode cX1_init 44 = .ok (.newarray .int, 2) := by decide +kernel
theorem dX1_init_46 : decode cX1_init 46 = .ok (.putfield 24, 3) := by decide +kernel
theorem dX1_init_49 : decode cX1_init 49 = .ok (.aload_n 0, 1) := by decide +kernel
theorem dX1_init_50 : decode cX1_init 50 = .ok (.getfield 24, 3) := by decide +kernel
theorem dX1_init_53 : decode cX1_init 53 = .ok (.iconst (-1), 1) := by decide +kernel
theorem dX1_init_54 : decode cX1_init 54 = .ok (.invokestatic 27, 3) := by decide +kernel
theorem dX1_init_57 : decode cX1_init 57 = .ok (.aload_n 0, 1) := by decide +kernel
theorem dX1_init_58 : decode cX1_init 58 = .ok (.sipush 1344, 3) := by decide +kernel
theorem dX1_init_61 : decode cX1_init 61 = .ok (.newarray .boolean, 2) := by decide +kernel
theorem dX1_init_63 : decode cX1_init 63 = .ok (.putfield 33, 3) := by decide +kernel
theorem dX1_init_66 : decode cX1_init 66 = .ok (.aload_n 0, 1) := by decide +kernel
theorem dX1_init_67 : decode cX1_init 67 = .ok (.iconst 0, 1) := by decide +kernel
theorem dX1_init_68 : decode cX1_init 68 = .ok (.putfield 37, 3) := by decide +kernel
theorem dX1_init_71 : decode cX1_init 71 = .ok (.return_, 1) := by decide +kernel
theorem dX1_number_0 : decode cX1_number 0 = .ok (.aload_n 0, 1) := by decide +kernel
theorem dX1_number_1 : decode cX1_number 1 = .ok (.getfield 37, 3) := by decide +kernel
theorem dX1_number_4 : decode cX1_number 4 = .ok (.ireturn, 1) := by decide +kernel
theorem dX1_hasRoomFor_0 : decode cX1_hasRoomFor 0 = .ok (.aload_n 0, 1) := by decide +kernel
theorem dX1_hasRoomFor_1 : decode cX1_hasRoomFor 1 = .ok (.getfield 37, 3) := by decide +kernel
theorem dX1_hasRoomFor_4 : decode cX1_hasRoomFor 4 = .ok (.iload_n 1, 1) := by decide +kernel
theorem dX1_hasRoomFor_5 : decode cX1_hasRoomFor 5 = .ok (.iadd, 1) := by decide +kernel
theorem dX1_hasRoomFor_6 : decode cX1_hasRoomFor 6 = .ok (.sipush 600, 3) := by decide +kernel
theorem dX1_hasRoomFor_9 : decode cX1_hasRoomFor 9 = .ok (.if_icmp .gt 7, 3) := by decide +kernel
theorem dX1_hasRoomFor_12 : decode cX1_hasRoomFor 12 = .ok (.iconst 1, 1) := by decide +kernel
theorem dX1_hasRoomFor_13 : decode cX1_hasRoomFor 13 = .ok (.goto 4, 3) := by decide +kernel
theorem dX1_hasRoomFor_16 : decode cX1_hasRoomFor 16 = .ok (.iconst 0, 1) := by decide +kernel
theorem dX1_hasRoomFor_17 : decode cX1_hasRoomFor 17 = .ok (.ireturn, 1) := by decide +kernel
theorem dX1_enter_0 : decode cX1_enter 0 = .ok (.aload_n 0, 1) := by decide +kernel
theorem dX1_enter_1 : decode cX1_enter 1 = .ok (.getfield 37, 3) := by decide +kernel
theorem dX1_enter_4 : decode cX1_enter 4 = .ok (.sipush 600, 3) := by decide +kernel
theorem dX1_enter_7 : decode cX1_enter 7 = .ok (.if_icmp .ge 58, 3) := by decide +kernel
theorem dX1_enter_10 : decode cX1_enter 10 = .ok (.aload_n 0, 1) := by decide +kernel
theorem dX1_enter_11 : decode cX1_enter 11 = .ok (.getfield 9, 3) := by decide +kernel
theorem dX1_enter_14 : decode cX1_enter 14 = .ok (.aload_n 0, 1) := by decide +kernel
theorem dX1_enter_15 : decode cX1_enter 15 = .ok (.getfield 37, 3) := by decide +kernel
theorem dX1_enter_18 : decode cX1_enter 18 = .ok (.iload_n 2, 1) := by decide +kernel
theorem dX1_enter_19 : decode cX1_enter 19 = .ok (.iastore, 1) := by decide +kernel
theorem dX1_enter_20 : decode cX1_enter 20 = .ok (.aload_n 0, 1) := by decide +kernel
theorem dX1_enter_21 : decode cX1_enter 21 = .ok (.getfield 15, 3) := by decide +kernel
theorem dX1_enter_24 : decode cX1_enter 24 = .ok (.aload_n 0, 1) := by decide +kernel
theorem dX1_enter_25 : decode cX1_enter 25 = .ok (.getfield 37, 3) := by decide +kernel
theorem dX1_enter_28 : decode cX1_enter 28 = .ok (.iload_n 3, 1) := by decide +kernel
theorem dX1_enter_29 : decode cX1_enter 29 = .ok (.iastore, 1) := by decide +kernel
theorem dX1_enter_30 : decode cX1_enter 30 = .ok (.aload_n 0, 1) := by decide +kernel
theorem dX1_enter_31 : decode cX1_enter 31 = .ok (.getfield 21, 3) := by decide +kernel
theorem dX1_enter_34 : decode cX1_enter 34 = .ok (.aload_n 0, 1) := by decide +kernel
theorem dX1_enter_35 : decode cX1_enter 35 = .ok (.getfield 37, 3) := by decide +kernel
theorem dX1_enter_38 : decode cX1_enter 38 = .ok (.aload_n 0, 1) := by decide +kernel
theorem dX1_enter_39 : decode cX1_enter 39 = .ok (.getfield 24, 3) := by decide +kernel
theorem dX1_enter_42 : decode cX1_enter 42 = .ok (.iload_n 1, 1) := by decide +kernel
theorem dX1_enter_43 : decode cX1_enter 43 = .ok (.iaload, 1) := by decide +kernel
theorem dX1_enter_44 : decode cX1_enter 44 = .ok (.iastore, 1) := by decide +kernel
theorem dX1_enter_45 : decode cX1_enter 45 = .ok (.aload_n 0, 1) := by decide +kernel
theorem dX1_enter_46 : decode cX1_enter 46 = .ok (.getfield 24, 3) := by decide +kernel
theorem dX1_enter_49 : decode cX1_enter 49 = .ok (.iload_n 1, 1) := by decide +kernel
theorem dX1_enter_50 : decode cX1_enter 50 = .ok (.aload_n 0, 1) := by decide +kernel
theorem dX1_enter_51 : decode cX1_enter 51 = .ok (.getfield 37, 3) := by decide +kernel
theorem dX1_enter_54 : decode cX1_enter 54 = .ok (.iastore, 1) := by decide +kernel
theorem dX1_enter_55 : decode cX1_enter 55 = .ok (.aload_n 0, 1) := by decide +kernel
theorem dX1_enter_56 : decode cX1_enter 56 = .ok (.dup, 1) := by decide +kernel
theorem dX1_enter_57 : decode cX1_enter 57 = .ok (.getfield 37, 3) := by decide +kernel
theorem dX1_enter_60 : decode cX1_enter 60 = .ok (.iconst 1, 1) := by decide +kernel
theorem dX1_enter_61 : decode cX1_enter 61 = .ok (.iadd, 1) := by decide +kernel
theorem dX1_enter_62 : decode cX1_enter 62 = .ok (.putfield 37, 3) := by decide +kernel
theorem dX1_enter_65 : decode cX1_enter 65 = .ok (.return_, 1) := by decide +kernel
theorem dX1_tellKinds_0 : decode cX1_tellKinds 0 = .ok (.aload_n 0, 1) := by decide +kernel
theorem dX1_tellKinds_1 : decode cX1_tellKinds 1 = .ok (.getfield 37, 3) := by decide +kernel
theorem dX1_tellKinds_4 : decode cX1_tellKinds 4 = .ok (.ifCond .le 41, 3) := by decide +kernel
theorem dX1_tellKinds_7 : decode cX1_tellKinds 7 = .ok (.aload_n 0, 1) := by decide +kernel
theorem dX1_tellKinds_8 : decode cX1_tellKinds 8 = .ok (.getfield 37, 3) := by decide +kernel
theorem dX1_tellKinds_11 : decode cX1_tellKinds 11 = .ok (.iconst 1, 1) := by decide +kernel
theorem dX1_tellKinds_12 : decode cX1_tellKinds 12 = .ok (.isub, 1) := by decide +kernel
theorem dX1_tellKinds_13 : decode cX1_tellKinds 13 = .ok (.iconst 3, 1) := by decide +kernel
theorem dX1_tellKinds_14 : decode cX1_tellKinds 14 = .ok (.imul, 1) := by decide +kernel
theorem dX1_tellKinds_15 : decode cX1_tellKinds 15 = .ok (.istore 4, 2) := by decide +kernel
theorem dX1_tellKinds_17 : decode cX1_tellKinds 17 = .ok (.aload_n 0, 1) := by decide +kernel
theorem dX1_tellKinds_18 : decode cX1_tellKinds 18 = .ok (.getfield 18, 3) := by decide +kernel
theorem dX1_tellKinds_21 : decode cX1_tellKinds 21 = .ok (.iload 4, 2) := by decide +kernel
theorem dX1_tellKinds_23 : decode cX1_tellKinds 23 = .ok (.iload_n 1, 1) := by decide +kernel
theorem dX1_tellKinds_24 : decode cX1_tellKinds 24 = .ok (.iastore, 1) := by decide +kernel
theorem dX1_tellKinds_25 : decode cX1_tellKinds 25 = .ok (.aload_n 0, 1) := by decide +kernel
theorem dX1_tellKinds_26 : decode cX1_tellKinds 26 = .ok (.getfield 18, 3) := by decide +kernel
theorem dX1_tellKinds_29 : decode cX1_tellKinds 29 = .ok (.iload 4, 2) := by decide +kernel
theorem dX1_tellKinds_31 : decode cX1_tellKinds 31 = .ok (.iconst 1, 1) := by decide +kernel
theorem dX1_tellKinds_32 : decode cX1_tellKinds 32 = .ok (.iadd, 1) := by decide +kernel
theorem dX1_tellKinds_33 : decode cX1_tellKinds 33 = .ok (.iload_n 2, 1) := by decide +kernel
theorem dX1_tellKinds_34 : decode cX1_tellKinds 34 = .ok (.iastore, 1) := by decide +kernel
theorem dX1_tellKinds_35 : decode cX1_tellKinds 35 = .ok (.aload_n 0, 1) := by decide +kernel
theorem dX1_tellKinds_36 : decode cX1_tellKinds 36 = .ok (.getfield 18, 3) := by decide +kernel
theorem dX1_tellKinds_39 : decode cX1_tellKinds 39 = .ok (.iload 4, 2) := by decide +kernel
theorem dX1_tellKinds_41 : decode cX1_tellKinds 41 = .ok (.iconst 2, 1) := by decide +kernel
theorem dX1_tellKinds_42 : decode cX1_tellKinds 42 = .ok (.iadd, 1) := by decide +kernel
theorem dX1_tellKinds_43 : decode cX1_tellKinds 43 = .ok (.iload_n 3, 1) := by decide +kernel
theorem dX1_tellKinds_44 : decode cX1_tellKinds 44 = .ok (.iastore, 1) := by decide +kernel
theorem dX1_tellKinds_45 : decode cX1_tellKinds 45 = .ok (.return_, 1) := by decide +kernel
theorem dX1_setApart_0 : decode cX1_setApart 0 = .ok (.aload_n 0, 1) := by decide +kernel
theorem dX1_setApart_1 : decode cX1_setApart 1 = .ok (.getfield 33, 3) := by decide +kernel
theorem dX1_setApart_4 : decode cX1_setApart 4 = .ok (.iload_n 1, 1) := by decide +kernel
theorem dX1_setApart_5 : decode cX1_setApart 5 = .ok (.baload, 1) := by decide +kernel
theorem dX1_setApart_6 : decode cX1_setApart 6 = .ok (.iload_n 2, 1) := by decide +kernel
theorem dX1_setApart_7 : decode cX1_setApart 7 = .ok (.if_icmp .eq 7, 3) := by decide +kernel
theorem dX1_setApart_10 : decode cX1_setApart 10 = .ok (.iconst 1, 1) := by decide +kernel
theorem dX1_setApart_11 : decode cX1_setApart 11 = .ok (.goto 4, 3) := by decide +kernel
theorem dX1_setApart_14 : decode cX1_setApart 14 = .ok (.iconst 0, 1) := by decide +kernel
theorem dX1_setApart_15 : decode cX1_setApart 15 = .ok (.istore_n 3, 1) := by decide +kernel
theorem dX1_setApart_16 : decode cX1_setApart 16 = .ok (.aload_n 0, 1) := by decide +kernel
theorem dX1_setApart_17 : decode cX1_setApart 17 = .ok (.getfield 33, 3) := by decide +kernel
theorem dX1_setApart_20 : decode cX1_setApart 20 = .ok (.iload_n 1, 1) := by decide +kernel
theorem dX1_setApart_21 : decode cX1_setApart 21 = .ok (.iload_n 2, 1) := by decide +kernel
theorem dX1_setApart_22 : decode cX1_setApart 22 = .ok (.bastore, 1) := by decide +kernel
theorem dX1_setApart_23 : decode cX1_setApart 23 = .ok (.iload_n 3, 1) := by decide +kernel
theorem dX1_setApart_24 : decode cX1_setApart 24 = .ok (.ireturn, 1) := by decide +kernel
theorem dX1_state_0 : decode cX1_state 0 = .ok (.aload_n 0, 1) := by decide +kernel
theorem dX1_state_1 : decode cX1_state 1 = .ok (.getfield 33, 3) := by decide +kernel
theorem dX1_state_4 : decode cX1_state 4 = .ok (.iload_n 1, 1) := by decide +kernel
theorem dX1_state_5 : decode cX1_state 5 = .ok (.baload, 1) := by decide +kernel
theorem dX1_state_6 : decode cX1_state 6 = .ok (.ifCond .eq 6, 3) := by decide +kernel
theorem dX1_state_9 : decode cX1_state 9 = .ok (.bipush (-3), 2) := by decide +kernel
theorem dX1_state_11 : decode cX1_state 11 = .ok (.ireturn, 1) := by decide +kernel
theorem dX1_state_12 : decode cX1_state 12 = .ok (.aload_n 0, 1) := by decide +kernel
theorem dX1_state_13 : decode cX1_state 13 = .ok (.iload_n 1, 1) := by decide +kernel
theorem dX1_state_14 : decode cX1_state 14 = .ok (.iload_n 2, 1) := by decide +kernel
theorem dX1_state_15 : decode cX1_state 15 = .ok (.invokevirtual 41, 3) := by decide +kernel
theorem dX1_state_18 : decode cX1_state 18 = .ok (.istore_n 3, 1) := by decide +kernel
theorem dX1_state_19 : decode cX1_state 19 = .ok (.iload_n 3, 1) := by decide +kernel
theorem dX1_state_20 : decode cX1_state 20 = .ok (.iconst (-1), 1) := by decide +kernel
theorem dX1_state_21 : decode cX1_state 21 = .ok (.if_icmp .ne 8, 3) := by decide +kernel
theorem dX1_state_24 : decode cX1_state 24 = .ok (.bipush (-2), 2) := by decide +kernel
theorem dX1_state_26 : decode cX1_state 26 = .ok (.goto 9, 3) := by decide +kernel
theorem dX1_state_29 : decode cX1_state 29 = .ok (.aload_n 0, 1) := by decide +kernel
theorem dX1_state_30 : decode cX1_state 30 = .ok (.getfield 15, 3) := by decide +kernel
theorem dX1_state_33 : decode cX1_state 33 = .ok (.iload_n 3, 1) := by decide +kernel
theorem dX1_state_34 : decode cX1_state 34 = .ok (.iaload, 1) := by decide +kernel
theorem dX1_state_35 : decode cX1_state 35 = .ok (.ireturn, 1) := by decide +kernel
theorem dX1_ofKind_0 : decode cX1_ofKind 0 = .ok (.aload_n 0, 1) := by decide +kernel
theorem dX1_ofKind_1 : decode cX1_ofKind 1 = .ok (.iload_n 1, 1) := by decide +kernel
theorem dX1_ofKind_2 : decode cX1_ofKind 2 = .ok (.iload_n 2, 1) := by decide +kernel
theorem dX1_ofKind_3 : decode cX1_ofKind 3 = .ok (.invokevirtual 41, 3) := by decide +kernel
theorem dX1_ofKind_6 : decode cX1_ofKind 6 = .ok (.istore 4, 2) := by decide +kernel
theorem dX1_ofKind_8 : decode cX1_ofKind 8 = .ok (.iload 4, 2) := by decide +kernel
theorem dX1_ofKind_10 : decode cX1_ofKind 10 = .ok (.iconst (-1), 1) := by decide +kernel
theorem dX1_ofKind_11 : decode cX1_ofKind 11 = .ok (.if_icmp .ne 7, 3) := by decide +kernel
theorem dX1_ofKind_14 : decode cX1_ofKind 14 = .ok (.iconst (-1), 1) := by decide +kernel
theorem dX1_ofKind_15 : decode cX1_ofKind 15 = .ok (.goto 14, 3) := by decide +kernel
theorem dX1_ofKind_18 : decode cX1_ofKind 18 = .ok (.aload_n 0, 1) := by decide +kernel
theorem dX1_ofKind_19 : decode cX1_ofKind 19 = .ok (.getfield 18, 3) := by decide +kernel
theorem dX1_ofKind_22 : decode cX1_ofKind 22 = .ok (.iload 4, 2) := by decide +kernel
theorem dX1_ofKind_24 : decode cX1_ofKind 24 = .ok (.iconst 3, 1) := by decide +kernel
theorem dX1_ofKind_25 : decode cX1_ofKind 25 = .ok (.imul, 1) := by decide +kernel
theorem dX1_ofKind_26 : decode cX1_ofKind 26 = .ok (.iload_n 3, 1) := by decide +kernel
theorem dX1_ofKind_27 : decode cX1_ofKind 27 = .ok (.iadd, 1) := by decide +kernel
theorem dX1_ofKind_28 : decode cX1_ofKind 28 = .ok (.iaload, 1) := by decide +kernel
theorem dX1_ofKind_29 : decode cX1_ofKind 29 = .ok (.ireturn, 1) := by decide +kernel
theorem dX1_holding_0 : decode cX1_holding 0 = .ok (.aload_n 0, 1) := by decide +kernel
theorem dX1_holding_1 : decode cX1_holding 1 = .ok (.getfield 24, 3) := by decide +kernel
theorem dX1_holding_4 : decode cX1_holding 4 = .ok (.iload_n 1, 1) := by decide +kernel
theorem dX1_holding_5 : decode cX1_holding 5 = .ok (.iaload, 1) := by decide +kernel
theorem dX1_holding_6 : decode cX1_holding 6 = .ok (.istore_n 3, 1) := by decide +kernel
theorem dX1_holding_7 : decode cX1_holding 7 = .ok (.iconst 0, 1) := by decide +kernel
theorem dX1_holding_8 : decode cX1_holding 8 = .ok (.istore 4, 2) := by decide +kernel
theorem dX1_holding_10 : decode cX1_holding 10 = .ok (.iload 4, 2) := by decide +kernel
theorem dX1_holding_12 : decode cX1_holding 12 = .ok (.sipush 600, 3) := by decide +kernel
theorem dX1_holding_15 : decode cX1_holding 15 = .ok (.if_icmp .ge 31, 3) := by decide +kernel
theorem dX1_holding_18 : decode cX1_holding 18 = .ok (.iload_n 3, 1) := by decide +kernel
theorem dX1_holding_19 : decode cX1_holding 19 = .ok (.iconst (-1), 1) := by decide +kernel
theorem dX1_holding_20 : decode cX1_holding 20 = .ok (.if_icmp .eq 26, 3) := by decide +kernel
theorem dX1_holding_23 : decode cX1_holding 23 = .ok (.aload_n 0, 1) := by decide +kernel
theorem dX1_holding_24 : decode cX1_holding 24 = .ok (.getfield 9, 3) := by decide +kernel
theorem dX1_holding_27 : decode cX1_holding 27 = .ok (.iload_n 3, 1) := by decide +kernel
theorem dX1_holding_28 : decode cX1_holding 28 = .ok (.iaload, 1) := by decide +kernel
theorem dX1_holding_29 : decode cX1_holding 29 = .ok (.iload_n 2, 1) := by decide +kernel
theorem dX1_holding_30 : decode cX1_holding 30 = .ok (.if_icmp .le 16, 3) := by decide +kernel
theorem dX1_holding_33 : decode cX1_holding 33 = .ok (.aload_n 0, 1) := by decide +kernel
theorem dX1_holding_34 : decode cX1_holding 34 = .ok (.getfield 21, 3) := by decide +kernel
theorem dX1_holding_37 : decode cX1_holding 37 = .ok (.iload_n 3, 1) := by decide +kernel
theorem dX1_holding_38 : decode cX1_holding 38 = .ok (.iaload, 1) := by decide +kernel
theorem dX1_holding_39 : decode cX1_holding 39 = .ok (.istore_n 3, 1) := by decide +kernel
theorem dX1_holding_40 : decode cX1_holding 40 = .ok (.iinc 4 1, 3) := by decide +kernel
theorem dX1_holding_43 : decode cX1_holding 43 = .ok (.goto (-33), 3) := by decide +kernel
theorem dX1_holding_46 : decode cX1_holding 46 = .ok (.iload_n 3, 1) := by decide +kernel
theorem dX1_holding_47 : decode cX1_holding 47 = .ok (.ireturn, 1) := by decide +kernel
theorem dX2_init_0 : decode cX2_init 0 = .ok (.aload_n 0, 1) := by decide +kernel
theorem dX2_init_1 : decode cX2_init 1 = .ok (.invokespecial 3, 3) := by decide +kernel
theorem dX2_init_4 : decode cX2_init 4 = .ok (.aload_n 0, 1) := by decide +kernel
theorem dX2_init_5 : decode cX2_init 5 = .ok (.lconst 0, 1) := by decide +kernel
theorem dX2_init_6 : decode cX2_init 6 = .ok (.putfield 9, 3) := by decide +kernel
theorem dX2_init_9 : decode cX2_init 9 = .ok (.aload_n 0, 1) := by decide +kernel
theorem dX2_init_10 : decode cX2_init 10 = .ok (.lconst 1, 1) := by decide +kernel
theorem dX2_init_11 : decode cX2_init 11 = .ok (.putfield 15, 3) := by decide +kernel
theorem dX2_init_14 : decode cX2_init 14 = .ok (.return_, 1) := by decide +kernel
theorem dX2_put_0 : decode cX2_put 0 = .ok (.lload_n 3, 1) := by decide +kernel
theorem dX2_put_1 : decode cX2_put 1 = .ok (.lconst 0, 1) := by decide +kernel
theorem dX2_put_2 : decode cX2_put 2 = .ok (.lcmp, 1) := by decide +kernel
theorem dX2_put_3 : decode cX2_put 3 = .ok (.ifCond .gt 4, 3) := by decide +kernel
theorem dX2_put_6 : decode cX2_put 6 = .ok (.return_, 1) := by decide +kernel
theorem dX2_put_7 : decode cX2_put 7 = .ok (.lload_n 1, 1) := by decide +kernel
theorem dX2_put_8 : decode cX2_put 8 = .ok (.lconst 0, 1) := by decide +kernel
theorem dX2_put_9 : decode cX2_put 9 = .ok (.lcmp, 1) := by decide +kernel
theorem dX2_put_10 : decode cX2_put 10 = .ok (.ifCond .ge 8, 3) := by decide +kernel
theorem dX2_put_13 : decode cX2_put 13 = .ok (.lload_n 1, 1) := by decide +kernel
theorem dX2_put_14 : decode cX2_put 14 = .ok (.lneg, 1) := by decide +kernel
theorem dX2_put_15 : decode cX2_put 15 = .ok (.goto 4, 3) := by decide +kernel
theorem dX2_put_18 : decode cX2_put 18 = .ok (.lload_n 1, 1) := by decide +kernel
theorem dX2_put_19 : decode cX2_put 19 = .ok (.lload_n 3, 1) := by decide +kernel
theorem dX2_put_20 : decode cX2_put 20 = .ok (.invokestatic 18, 3) := by decide +kernel
theorem dX2_put_23 : decode cX2_put 23 = .ok (.lstore 5, 2) := by decide +kernel
theorem dX2_put_25 : decode cX2_put 25 = .ok (.aload_n 0, 1) := by decide +kernel
theorem dX2_put_26 : decode cX2_put 26 = .ok (.lload_n 1, 1) := by decide +kernel
theorem dX2_put_27 : decode cX2_put 27 = .ok (.lload 5, 2) := by decide +kernel
theorem dX2_put_29 : decode cX2_put 29 = .ok (.ldiv, 1) := by decide +kernel
theorem dX2_put_30 : decode cX2_put 30 = .ok (.putfield 9, 3) := by decide +kernel
theorem dX2_put_33 : decode cX2_put 33 = .ok (.aload_n 0, 1) := by decide +kernel
theorem dX2_put_34 : decode cX2_put 34 = .ok (.lload_n 3, 1) := by decide +kernel
theorem dX2_put_35 : decode cX2_put 35 = .ok (.lload 5, 2) := by decide +kernel
theorem dX2_put_37 : decode cX2_put 37 = .ok (.ldiv, 1) := by decide +kernel
theorem dX2_put_38 : decode cX2_put 38 = .ok (.putfield 15, 3) := by decide +kernel
theorem dX2_put_41 : decode cX2_put 41 = .ok (.return_, 1) := by decide +kernel
theorem dX2_part_0 : decode cX2_part 0 = .ok (.iload_n 1, 1) := by decide +kernel
theorem dX2_part_1 : decode cX2_part 1 = .ok (.ifCond .ne 10, 3) := by decide +kernel
theorem dX2_part_4 : decode cX2_part 4 = .ok (.aload_n 0, 1) := by decide +kernel
theorem dX2_part_5 : decode cX2_part 5 = .ok (.getfield 9, 3) := by decide +kernel
theorem dX2_part_8 : decode cX2_part 8 = .ok (.goto 7, 3) := by decide +kernel
theorem dX2_part_11 : decode cX2_part 11 = .ok (.aload_n 0, 1) := by decide +kernel
theorem dX2_part_12 : decode cX2_part 12 = .ok (.getfield 15, 3) := by decide +kernel
theorem dX2_part_15 : decode cX2_part 15 = .ok (.lreturn, 1) := by decide +kernel
theorem dX2_roundedHalfUp_0 : decode cX2_roundedHalfUp 0 = .ok (.ldc2_w 22, 3) := by decide +kernel
theorem dX2_roundedHalfUp_3 : decode cX2_roundedHalfUp 3 = .ok (.aload_n 0, 1) := by decide +kernel
theorem dX2_roundedHalfUp_4 : decode cX2_roundedHalfUp 4 = .ok (.getfield 9, 3) := by decide +kernel
theorem dX2_roundedHalfUp_7 : decode cX2_roundedHalfUp 7 = .ok (.lmul, 1) := by decide +kernel
theorem dX2_roundedHalfUp_8 : decode cX2_roundedHalfUp 8 = .ok (.aload_n 0, 1) := by decide +kernel
theorem dX2_roundedHalfUp_9 : decode cX2_roundedHalfUp 9 = .ok (.getfield 15, 3) := by decide +kernel
theorem dX2_roundedHalfUp_12 : decode cX2_roundedHalfUp 12 = .ok (.ladd, 1) := by decide +kernel
theorem dX2_roundedHalfUp_13 : decode cX2_roundedHalfUp 13 = .ok (.ldc2_w 22, 3) := by decide +kernel
theorem dX2_roundedHalfUp_16 : decode cX2_roundedHalfUp 16 = .ok (.aload_n 0, 1) := by decide +kernel
theorem dX2_roundedHalfUp_17 : decode cX2_roundedHalfUp 17 = .ok (.getfield 15, 3) := by decide +kernel
theorem dX2_roundedHalfUp_20 : decode cX2_roundedHalfUp 20 = .ok (.lmul, 1) := by decide +kernel
theorem dX2_roundedHalfUp_21 : decode cX2_roundedHalfUp 21 = .ok (.ldiv, 1) := by decide +kernel
theorem dX2_roundedHalfUp_22 : decode cX2_roundedHalfUp 22 = .ok (.lreturn, 1) := by decide +kernel
theorem dX2_order_0 : decode cX2_order 0 = .ok (.iconst 1, 1) := by decide +kernel
theorem dX2_order_1 : decode cX2_order 1 = .ok (.istore 8, 2) := by decide +kernel
theorem dX2_order_3 : decode cX2_order 3 = .ok (.lload_n 0, 1) := by decide +kernel
theorem dX2_order_4 : decode cX2_order 4 = .ok (.lstore 9, 2) := by decide +kernel
theorem dX2_order_6 : decode cX2_order 6 = .ok (.lload_n 2, 1) := by decide +kernel
theorem dX2_order_7 : decode cX2_order 7 = .ok (.lstore 11, 2) := by decide +kernel
theorem dX2_order_9 : decode cX2_order 9 = .ok (.lload 4, 2) := by decide +kernel
theorem dX2_order_11 : decode cX2_order 11 = .ok (.lstore 13, 2) := by decide +kernel
theorem dX2_order_13 : decode cX2_order 13 = .ok (.lload 6, 2) := by decide +kernel
theorem dX2_order_15 : decode cX2_order 15 = .ok (.lstore 15, 2) := by decide +kernel
theorem dX2_order_17 : decode cX2_order 17 = .ok (.iconst 0, 1) := by decide +kernel
theorem dX2_order_18 : decode cX2_order 18 = .ok (.istore 17, 2) := by decide +kernel
theorem dX2_order_20 : decode cX2_order 20 = .ok (.iload 17, 2) := by decide +kernel
theorem dX2_order_22 : decode cX2_order 22 = .ok (.sipush 200, 3) := by decide +kernel
theorem dX2_order_25 : decode cX2_order 25 = .ok (.if_icmp .ge 103, 3) := by decide +kernel
theorem dX2_order_28 : decode cX2_order 28 = .ok (.lload 11, 2) := by decide +kernel
theorem dX2_order_30 : decode cX2_order 30 = .ok (.lconst 0, 1) := by decide +kernel
theorem dX2_order_31 : decode cX2_order 31 = .ok (.lcmp, 1) := by decide +kernel
theorem dX2_order_32 : decode cX2_order 32 = .ok (.ifCond .le 96, 3) := by decide +kernel
theorem dX2_order_35 : decode cX2_order 35 = .ok (.lload 15, 2) := by decide +kernel
theorem dX2_order_37 : decode cX2_order 37 = .ok (.lconst 0, 1) := by decide +kernel
theorem dX2_order_38 : decode cX2_order 38 = .ok (.lcmp, 1) := by decide +kernel
theorem dX2_order_39 : decode cX2_order 39 = .ok (.ifCond .le 89, 3) := by decide +kernel
theorem dX2_order_42 : decode cX2_order 42 = .ok (.lload 9, 2) := by decide +kernel
theorem dX2_order_44 : decode cX2_order 44 = .ok (.lload 11, 2) := by decide +kernel
theorem dX2_order_46 : decode cX2_order 46 = .ok (.ldiv, 1) := by decide +kernel
theorem dX2_order_47 : decode cX2_order 47 = .ok (.lstore 18, 2) := by decide +kernel
theorem dX2_order_49 : decode cX2_order 49 = .ok (.lload 13, 2) := by decide +kernel
theorem dX2_order_51 : decode cX2_order 51 = .ok (.lload 15, 2) := by decide +kernel
theorem dX2_order_53 : decode cX2_order 53 = .ok (.ldiv, 1) := by decide +kernel
theorem dX2_order_54 : decode cX2_order 54 = .ok (.lstore 20, 2) := by decide +kernel
theorem dX2_order_56 : decode cX2_order 56 = .ok (.lload 18, 2) := by decide +kernel
theorem dX2_order_58 : decode cX2_order 58 = .ok (.lload 20, 2) := by decide +kernel
theorem dX2_order_60 : decode cX2_order 60 = .ok (.lcmp, 1) := by decide +kernel
theorem dX2_order_61 : decode cX2_order 61 = .ok (.ifCond .eq 20, 3) := by decide +kernel
theorem dX2_order_64 : decode cX2_order 64 = .ok (.lload 18, 2) := by decide +kernel
theorem dX2_order_66 : decode cX2_order 66 = .ok (.lload 20, 2) := by decide +kernel
theorem dX2_order_68 : decode cX2_order 68 = .ok (.lcmp, 1) := by decide +kernel
theorem dX2_order_69 : decode cX2_order 69 = .ok (.ifCond .le 8, 3) := by decide +kernel
theorem dX2_order_72 : decode cX2_order 72 = .ok (.iload 8, 2) := by decide +kernel
theorem dX2_order_74 : decode cX2_order 74 = .ok (.goto 6, 3) := by decide +kernel
theorem dX2_order_77 : decode cX2_order 77 = .ok (.iload 8, 2) := by decide +kernel
theorem dX2_order_79 : decode cX2_order 79 = .ok (.ineg, 1) := by decide +kernel
theorem dX2_order_80 : decode cX2_order 80 = .ok (.ireturn, 1) := by decide +kernel
theorem dX2_order_81 : decode cX2_order 81 = .ok (.lload 9, 2) := by decide +kernel
theorem dX2_order_83 : decode cX2_order 83 = .ok (.lload 18, 2) := by decide +kernel
theorem dX2_order_85 : decode cX2_order 85 = .ok (.lload 11, 2) := by decide +kernel
theorem dX2_order_87 : decode cX2_order 87 = .ok (.lmul, 1) := by decide +kernel
theorem dX2_order_88 : decode cX2_order 88 = .ok (.lsub, 1) := by decide +kernel
theorem dX2_order_89 : decode cX2_order 89 = .ok (.lstore 22, 2) := by decide +kernel
theorem dX2_order_91 : decode cX2_order 91 = .ok (.lload 13, 2) := by decide +kernel
theorem dX2_order_93 : decode cX2_order 93 = .ok (.lload 20, 2) := by decide +kernel
theorem dX2_order_95 : decode cX2_order 95 = .ok (.lload 15, 2) := by decide +kernel
theorem dX2_order_97 : decode cX2_order 97 = .ok (.lmul, 1) := by decide +kernel
theorem dX2_order_98 : decode cX2_order 98 = .ok (.lsub, 1) := by decide +kernel
theorem dX2_order_99 : decode cX2_order 99 = .ok (.lstore 24, 2) := by decide +kernel
theorem dX2_order_101 : decode cX2_order 101 = .ok (.lload 11, 2) := by decide +kernel
theorem dX2_order_103 : decode cX2_order 103 = .ok (.lstore 9, 2) := by decide +kernel
theorem dX2_order_105 : decode cX2_order 105 = .ok (.lload 22, 2) := by decide +kernel
theorem dX2_order_107 : decode cX2_order 107 = .ok (.lstore 11, 2) := by decide +kernel
theorem dX2_order_109 : decode cX2_order 109 = .ok (.lload 15, 2) := by decide +kernel
theorem dX2_order_111 : decode cX2_order 111 = .ok (.lstore 13, 2) := by decide +kernel
theorem dX2_order_113 : decode cX2_order 113 = .ok (.lload 24, 2) := by decide +kernel
theorem dX2_order_115 : decode cX2_order 115 = .ok (.lstore 15, 2) := by decide +kernel
theorem dX2_order_117 : decode cX2_order 117 = .ok (.iload 8, 2) := by decide +kernel
theorem dX2_order_119 : decode cX2_order 119 = .ok (.ineg, 1) := by decide +kernel
theorem dX2_order_120 : decode cX2_order 120 = .ok (.istore 8, 2) := by decide +kernel
theorem dX2_order_122 : decode cX2_order 122 = .ok (.iinc 17 1, 3) := by decide +kernel
theorem dX2_order_125 : decode cX2_order 125 = .ok (.goto (-105), 3) := by decide +kernel
theorem dX2_order_128 : decode cX2_order 128 = .ok (.lload 11, 2) := by decide +kernel
theorem dX2_order_130 : decode cX2_order 130 = .ok (.lload 15, 2) := by decide +kernel
theorem dX2_order_132 : decode cX2_order 132 = .ok (.lcmp, 1) := by decide +kernel
theorem dX2_order_133 : decode cX2_order 133 = .ok (.ifCond .ne 5, 3) := by decide +kernel
theorem dX2_order_136 : decode cX2_order 136 = .ok (.iconst 0, 1) := by decide +kernel
theorem dX2_order_137 : decode cX2_order 137 = .ok (.ireturn, 1) := by decide +kernel
theorem dX2_order_138 : decode cX2_order 138 = .ok (.lload 11, 2) := by decide +kernel
theorem dX2_order_140 : decode cX2_order 140 = .ok (.lconst 0, 1) := by decide +kernel
theorem dX2_order_141 : decode cX2_order 141 = .ok (.lcmp, 1) := by decide +kernel
theorem dX2_order_142 : decode cX2_order 142 = .ok (.ifCond .ne 8, 3) := by decide +kernel
theorem dX2_order_145 : decode cX2_order 145 = .ok (.iload 8, 2) := by decide +kernel
theorem dX2_order_147 : decode cX2_order 147 = .ok (.goto 6, 3) := by decide +kernel
theorem dX2_order_150 : decode cX2_order 150 = .ok (.iload 8, 2) := by decide +kernel
theorem dX2_order_152 : decode cX2_order 152 = .ok (.ineg, 1) := by decide +kernel
theorem dX2_order_153 : decode cX2_order 153 = .ok (.ireturn, 1) := by decide +kernel
theorem dX2_commonDivisor_0 : decode cX2_commonDivisor 0 = .ok (.lload_n 0, 1) := by decide +kernel
theorem dX2_commonDivisor_1 : decode cX2_commonDivisor 1 = .ok (.lstore 4, 2) := by decide +kernel
theorem dX2_commonDivisor_3 : decode cX2_commonDivisor 3 = .ok (.lload_n 2, 1) := by decide +kernel
theorem dX2_commonDivisor_4 : decode cX2_commonDivisor 4 = .ok (.lstore 6, 2) := by decide +kernel
theorem dX2_commonDivisor_6 : decode cX2_commonDivisor 6 = .ok (.iconst 0, 1) := by decide +kernel
theorem dX2_commonDivisor_7 : decode cX2_commonDivisor 7 = .ok (.istore 8, 2) := by decide +kernel
theorem dX2_commonDivisor_9 : decode cX2_commonDivisor 9 = .ok (.iload 8, 2) := by decide +kernel
theorem dX2_commonDivisor_11 : decode cX2_commonDivisor 11 = .ok (.sipush 200, 3) := by decide +kernel
theorem dX2_commonDivisor_14 : decode cX2_commonDivisor 14 = .ok (.if_icmp .ge 31, 3) := by decide +kernel
theorem dX2_commonDivisor_17 : decode cX2_commonDivisor 17 = .ok (.lload 6, 2) := by decide +kernel
theorem dX2_commonDivisor_19 : decode cX2_commonDivisor 19 = .ok (.lconst 0, 1) := by decide +kernel
theorem dX2_commonDivisor_20 : decode cX2_commonDivisor 20 = .ok (.lcmp, 1) := by decide +kernel
theorem dX2_commonDivisor_21 : decode cX2_commonDivisor 21 = .ok (.ifCond .eq 24, 3) := by decide +kernel
theorem dX2_commonDivisor_24 : decode cX2_commonDivisor 24 = .ok (.lload 4, 2) := by decide +kernel
theorem dX2_commonDivisor_26 : decode cX2_commonDivisor 26 = .ok (.lload 6, 2) := by decide +kernel
theorem dX2_commonDivisor_28 : decode cX2_commonDivisor 28 = .ok (.lrem, 1) := by decide +kernel
theorem dX2_commonDivisor_29 : decode cX2_commonDivisor 29 = .ok (.lstore 9, 2) := by decide +kernel
theorem dX2_commonDivisor_31 : decode cX2_commonDivisor 31 = .ok (.lload 6, 2) := by decide +kernel
theorem dX2_commonDivisor_33 : decode cX2_commonDivisor 33 = .ok (.lstore 4, 2) := by decide +kernel
theorem dX2_commonDivisor_35 : decode cX2_commonDivisor 35 = .ok (.lload 9, 2) := by decide +kernel
theorem dX2_commonDivisor_37 : decode cX2_commonDivisor 37 = .ok (.lstore 6, 2) := by decide +kernel
theorem dX2_commonDivisor_39 : decode cX2_commonDivisor 39 = .ok (.iinc 8 1, 3) := by decide +kernel
theorem dX2_commonDivisor_42 : decode cX2_commonDivisor 42 = .ok (.goto (-33), 3) := by decide +kernel
theorem dX2_commonDivisor_45 : decode cX2_commonDivisor 45 = .ok (.lload 4, 2) := by decide +kernel
theorem dX2_commonDivisor_47 : decode cX2_commonDivisor 47 = .ok (.lconst 0, 1) := by decide +kernel
theorem dX2_commonDivisor_48 : decode cX2_commonDivisor 48 = .ok (.lcmp, 1) := by decide +kernel
theorem dX2_commonDivisor_49 : decode cX2_commonDivisor 49 = .ok (.ifCond .ne 7, 3) := by decide +kernel
theorem dX2_commonDivisor_52 : decode cX2_commonDivisor 52 = .ok (.lconst 1, 1) := by decide +kernel
theorem dX2_commonDivisor_53 : decode cX2_commonDivisor 53 = .ok (.goto 5, 3) := by decide +kernel
theorem dX2_commonDivisor_56 : decode cX2_commonDivisor 56 = .ok (.lload 4, 2) := by decide +kernel
theorem dX2_commonDivisor_58 : decode cX2_commonDivisor 58 = .ok (.lreturn, 1) := by decide +kernel
theorem dX3_init_0 : decode cX3_init 0 = .ok (.aload_n 0, 1) := by decide +kernel
theorem dX3_init_1 : decode cX3_init 1 = .ok (.invokespecial 3, 3) := by decide +kernel
theorem dX3_init_4 : decode cX3_init 4 = .ok (.aload_n 0, 1) := by decide +kernel
theorem dX3_init_5 : decode cX3_init 5 = .ok (.bipush 16, 2) := by decide +kernel
theorem dX3_init_7 : decode cX3_init 7 = .ok (.newarray .boolean, 2) := by decide +kernel
theorem dX3_init_9 : decode cX3_init 9 = .ok (.putfield 9, 3) := by decide +kernel
theorem dX3_init_12 : decode cX3_init 12 = .ok (.aload_n 0, 1) := by decide +kernel
theorem dX3_init_13 : decode cX3_init 13 = .ok (.bipush 16, 2) := by decide +kernel
theorem dX3_init_15 : decode cX3_init 15 = .ok (.newarray .int, 2) := by decide +kernel
theorem dX3_init_17 : decode cX3_init 17 = .ok (.putfield 15, 3) := by decide +kernel
theorem dX3_init_20 : decode cX3_init 20 = .ok (.aload_n 0, 1) := by decide +kernel
theorem dX3_init_21 : decode cX3_init 21 = .ok (.bipush 16, 2) := by decide +kernel
theorem dX3_init_23 : decode cX3_init 23 = .ok (.newarray .int, 2) := by decide +kernel
theorem dX3_init_25 : decode cX3_init 25 = .ok (.putfield 19, 3) := by decide +kernel
theorem dX3_init_28 : decode cX3_init 28 = .ok (.aload_n 0, 1) := by decide +kernel
theorem dX3_init_29 : decode cX3_init 29 = .ok (.bipush 16, 2) := by decide +kernel
theorem dX3_init_31 : decode cX3_init 31 = .ok (.newarray .int, 2) := by decide +kernel
theorem dX3_init_33 : decode cX3_init 33 = .ok (.putfield 22, 3) := by decide +kernel
theorem dX3_init_36 : decode cX3_init 36 = .ok (.aload_n 0, 1) := by decide +kernel
theorem dX3_init_37 : decode cX3_init 37 = .ok (.iconst 0, 1) := by decide +kernel
theorem dX3_init_38 : decode cX3_init 38 = .ok (.putfield 25, 3) := by decide +kernel
theorem dX3_init_41 : decode cX3_init 41 = .ok (.return_, 1) := by decide +kernel
theorem dX3_add_0 : decode cX3_add 0 = .ok (.aload_n 0, 1) := by decide +kernel
theorem dX3_add_1 : decode cX3_add 1 = .ok (.getfield 9, 3) := by decide +kernel
theorem dX3_add_4 : decode cX3_add 4 = .ok (.iload_n 1, 1) := by decide +kernel
theorem dX3_add_5 : decode cX3_add 5 = .ok (.iconst 1, 1) := by decide +kernel
theorem dX3_add_6 : decode cX3_add 6 = .ok (.bastore, 1) := by decide +kernel
theorem dX3_add_7 : decode cX3_add 7 = .ok (.aload_n 0, 1) := by decide +kernel
theorem dX3_add_8 : decode cX3_add 8 = .ok (.getfield 15, 3) := by decide +kernel
theorem dX3_add_11 : decode cX3_add 11 = .ok (.iload_n 1, 1) := by decide +kernel
theorem dX3_add_12 : decode cX3_add 12 = .ok (.iload_n 2, 1) := by decide +kernel
theorem dX3_add_13 : decode cX3_add 13 = .ok (.iastore, 1) := by decide +kernel
theorem dX3_add_14 : decode cX3_add 14 = .ok (.aload_n 0, 1) := by decide +kernel
theorem dX3_add_15 : decode cX3_add 15 = .ok (.getfield 19, 3) := by decide +kernel
theorem dX3_add_18 : decode cX3_add 18 = .ok (.iload_n 1, 1) := by decide +kernel
theorem dX3_add_19 : decode cX3_add 19 = .ok (.iload_n 3, 1) := by decide +kernel
theorem dX3_add_20 : decode cX3_add 20 = .ok (.iastore, 1) := by decide +kernel
theorem dX3_add_21 : decode cX3_add 21 = .ok (.aload_n 0, 1) := by decide +kernel
theorem dX3_add_22 : decode cX3_add 22 = .ok (.getfield 22, 3) := by decide +kernel
theorem dX3_add_25 : decode cX3_add 25 = .ok (.iload_n 1, 1) := by decide +kernel
theorem dX3_add_26 : decode cX3_add 26 = .ok (.iload 4, 2) := by decide +kernel
theorem dX3_add_28 : decode cX3_add 28 = .ok (.iastore, 1) := by decide +kernel
theorem dX3_add_29 : decode cX3_add 29 = .ok (.aload_n 0, 1) := by decide +kernel
theorem dX3_add_30 : decode cX3_add 30 = .ok (.dup, 1) := by decide +kernel
theorem dX3_add_31 : decode cX3_add 31 = .ok (.getfield 25, 3) := by decide +kernel
theorem dX3_add_34 : decode cX3_add 34 = .ok (.iconst 1, 1) := by decide +kernel
theorem dX3_add_35 : decode cX3_add 35 = .ok (.iadd, 1) := by decide +kernel
theorem dX3_add_36 : decode cX3_add 36 = .ok (.putfield 25, 3) := by decide +kernel
theorem dX3_add_39 : decode cX3_add 39 = .ok (.return_, 1) := by decide +kernel
theorem dX3_has_0 : decode cX3_has 0 = .ok (.iload_n 1, 1) := by decide +kernel
theorem dX3_has_1 : decode cX3_has 1 = .ok (.bipush 16, 2) := by decide +kernel
theorem dX3_has_3 : decode cX3_has 3 = .ok (.invokestatic 29, 3) := by decide +kernel
theorem dX3_has_6 : decode cX3_has 6 = .ok (.ifCond .eq 16, 3) := by decide +kernel
theorem dX3_has_9 : decode cX3_has 9 = .ok (.aload_n 0, 1) := by decide +kernel
theorem dX3_has_10 : decode cX3_has 10 = .ok (.getfield 9, 3) := by decide +kernel
theorem dX3_has_13 : decode cX3_has 13 = .ok (.iload_n 1, 1) := by decide +kernel
theorem dX3_has_14 : decode cX3_has 14 = .ok (.baload, 1) := by decide +kernel
theorem dX3_has_15 : decode cX3_has 15 = .ok (.ifCond .eq 7, 3) := by decide +kernel
theorem dX3_has_18 : decode cX3_has 18 = .ok (.iconst 1, 1) := by decide +kernel
theorem dX3_has_19 : decode cX3_has 19 = .ok (.goto 4, 3) := by decide +kernel
theorem dX3_has_22 : decode cX3_has 22 = .ok (.iconst 0, 1) := by decide +kernel
theorem dX3_has_23 : decode cX3_has 23 = .ok (.ireturn, 1) := by decide +kernel
theorem dX3_isPost_0 : decode cX3_isPost 0 = .ok (.aload_n 0, 1) := by decide +kernel
theorem dX3_isPost_1 : decode cX3_isPost 1 = .ok (.iload_n 1, 1) := by decide +kernel
theorem dX3_isPost_2 : decode cX3_isPost 2 = .ok (.invokevirtual 33, 3) := by decide +kernel
theorem dX3_isPost_5 : decode cX3_isPost 5 = .ok (.ifCond .eq 17, 3) := by decide +kernel
theorem dX3_isPost_8 : decode cX3_isPost 8 = .ok (.aload_n 0, 1) := by decide +kernel
theorem dX3_isPost_9 : decode cX3_isPost 9 = .ok (.getfield 22, 3) := by decide +kernel
theorem dX3_isPost_12 : decode cX3_isPost 12 = .ok (.iload_n 1, 1) := by decide +kernel
theorem dX3_isPost_13 : decode cX3_isPost 13 = .ok (.iaload, 1) := by decide +kernel
theorem dX3_isPost_14 : decode cX3_isPost 14 = .ok (.iconst (-1), 1) := by decide +kernel
theorem dX3_isPost_15 : decode cX3_isPost 15 = .ok (.if_icmp .eq 7, 3) := by decide +kernel
theorem dX3_isPost_18 : decode cX3_isPost 18 = .ok (.iconst 1, 1) := by decide +kernel
theorem dX3_isPost_19 : decode cX3_isPost 19 = .ok (.goto 4, 3) := by decide +kernel
theorem dX3_isPost_22 : decode cX3_isPost 22 = .ok (.iconst 0, 1) := by decide +kernel
theorem dX3_isPost_23 : decode cX3_isPost 23 = .ok (.ireturn, 1) := by decide +kernel
theorem dX3_start_0 : decode cX3_start 0 = .ok (.aload_n 0, 1) := by decide +kernel
theorem dX3_start_1 : decode cX3_start 1 = .ok (.getfield 15, 3) := by decide +kernel
theorem dX3_start_4 : decode cX3_start 4 = .ok (.iload_n 1, 1) := by decide +kernel
theorem dX3_start_5 : decode cX3_start 5 = .ok (.iaload, 1) := by decide +kernel
theorem dX3_start_6 : decode cX3_start 6 = .ok (.ireturn, 1) := by decide +kernel
theorem dX3_goal_0 : decode cX3_goal 0 = .ok (.aload_n 0, 1) := by decide +kernel
theorem dX3_goal_1 : decode cX3_goal 1 = .ok (.getfield 19, 3) := by decide +kernel
theorem dX3_goal_4 : decode cX3_goal 4 = .ok (.iload_n 1, 1) := by decide +kernel
theorem dX3_goal_5 : decode cX3_goal 5 = .ok (.iaload, 1) := by decide +kernel
theorem dX3_goal_6 : decode cX3_goal 6 = .ok (.ireturn, 1) := by decide +kernel
theorem dX3_group_0 : decode cX3_group 0 = .ok (.aload_n 0, 1) := by decide +kernel
theorem dX3_group_1 : decode cX3_group 1 = .ok (.getfield 22, 3) := by decide +kernel
theorem dX3_group_4 : decode cX3_group 4 = .ok (.iload_n 1, 1) := by decide +kernel
theorem dX3_group_5 : decode cX3_group 5 = .ok (.iaload, 1) := by decide +kernel
theorem dX3_group_6 : decode cX3_group 6 = .ok (.ireturn, 1) := by decide +kernel
theorem dX3_number_0 : decode cX3_number 0 = .ok (.aload_n 0, 1) := by decide +kernel
theorem dX3_number_1 : decode cX3_number 1 = .ok (.getfield 25, 3) := by decide +kernel
theorem dX3_number_4 : decode cX3_number 4 = .ok (.ireturn, 1) := by decide +kernel
theorem dX4_init_0 : decode cX4_init 0 = .ok (.aload_n 0, 1) := by decide +kernel
theorem dX4_init_1 : decode cX4_init 1 = .ok (.invokespecial 3, 3) := by decide +kernel
theorem dX4_init_4 : decode cX4_init 4 = .ok (.aload_n 0, 1) := by decide +kernel
theorem dX4_init_5 : decode cX4_init 5 = .ok (.bipush 35, 2) := by decide +kernel
theorem dX4_init_7 : decode cX4_init 7 = .ok (.newarray .int, 2) := by decide +kernel
theorem dX4_init_9 : decode cX4_init 9 = .ok (.putfield 9, 3) := by decide +kernel
theorem dX4_init_12 : decode cX4_init 12 = .ok (.aload_n 0, 1) := by decide +kernel
theorem dX4_init_13 : decode cX4_init 13 = .ok (.bipush 60, 2) := by decide +kernel
theorem dX4_init_15 : decode cX4_init 15 = .ok (.newarray .int, 2) := by decide +kernel
theorem dX4_init_17 : decode cX4_init 17 = .ok (.putfield 15, 3) := by decide +kernel
theorem dX4_init_20 : decode cX4_init 20 = .ok (.aload_n 0, 1) := by decide +kernel
theorem dX4_init_21 : decode cX4_init 21 = .ok (.iconst 5, 1) := by decide +kernel
theorem dX4_init_22 : decode cX4_init 22 = .ok (.newarray .int, 2) := by decide +kernel
theorem dX4_init_24 : decode cX4_init 24 = .ok (.putfield 18, 3) := by decide +kernel
theorem dX4_init_27 : decode cX4_init 27 = .ok (.aload_n 0, 1) := by decide +kernel
theorem dX4_init_28 : decode cX4_init 28 = .ok (.iconst 5, 1) := by decide +kernel
theorem dX4_init_29 : decode cX4_init 29 = .ok (.newarray .int, 2) := by decide +kernel
theorem dX4_init_31 : decode cX4_init 31 = .ok (.putfield 21, 3) := by decide +kernel
theorem dX4_init_34 : decode cX4_init 34 = .ok (.return_, 1) := by decide +kernel
theorem dX4_clear_0 : decode cX4_clear 0 = .ok (.iconst 0, 1) := by decide +kernel
theorem dX4_clear_1 : decode cX4_clear 1 = .ok (.istore_n 2, 1) := by decide +kernel
theorem dX4_clear_2 : decode cX4_clear 2 = .ok (.iload_n 2, 1) := by decide +kernel
theorem dX4_clear_3 : decode cX4_clear 3 = .ok (.bipush 7, 2) := by decide +kernel
theorem dX4_clear_5 : decode cX4_clear 5 = .ok (.if_icmp .ge 21, 3) := by decide +kernel
theorem dX4_clear_8 : decode cX4_clear 8 = .ok (.aload_n 0, 1) := by decide +kernel
theorem dX4_clear_9 : decode cX4_clear 9 = .ok (.getfield 9, 3) := by decide +kernel
theorem dX4_clear_12 : decode cX4_clear 12 = .ok (.iload_n 1, 1) := by decide +kernel
theorem dX4_clear_13 : decode cX4_clear 13 = .ok (.bipush 7, 2) := by decide +kernel
theorem dX4_clear_15 : decode cX4_clear 15 = .ok (.imul, 1) := by decide +kernel
theorem dX4_clear_16 : decode cX4_clear 16 = .ok (.iload_n 2, 1) := by decide +kernel
theorem dX4_clear_17 : decode cX4_clear 17 = .ok (.iadd, 1) := by decide +kernel
theorem dX4_clear_18 : decode cX4_clear 18 = .ok (.iconst 0, 1) := by decide +kernel
theorem dX4_clear_19 : decode cX4_clear 19 = .ok (.iastore, 1) := by decide +kernel
theorem dX4_clear_20 : decode cX4_clear 20 = .ok (.iinc 2 1, 3) := by decide +kernel
theorem dX4_clear_23 : decode cX4_clear 23 = .ok (.goto (-21), 3) := by decide +kernel
theorem dX4_clear_26 : decode cX4_clear 26 = .ok (.iconst 0, 1) := by decide +kernel
theorem dX4_clear_27 : decode cX4_clear 27 = .ok (.istore_n 2, 1) := by decide +kernel
theorem dX4_clear_28 : decode cX4_clear 28 = .ok (.iload_n 2, 1) := by decide +kernel
theorem dX4_clear_29 : decode cX4_clear 29 = .ok (.bipush 12, 2) := by decide +kernel
theorem dX4_clear_31 : decode cX4_clear 31 = .ok (.if_icmp .ge 21, 3) := by decide +kernel
theorem dX4_clear_34 : decode cX4_clear 34 = .ok (.aload_n 0, 1) := by decide +kernel
theorem dX4_clear_35 : decode cX4_clear 35 = .ok (.getfield 15, 3) := by decide +kernel
theorem dX4_clear_38 : decode cX4_clear 38 = .ok (.iload_n 1, 1) := by decide +kernel
theorem dX4_clear_39 : decode cX4_clear 39 = .ok (.bipush 12, 2) := by decide +kernel
theorem dX4_clear_41 : decode cX4_clear 41 = .ok (.imul, 1) := by decide +kernel
theorem dX4_clear_42 : decode cX4_clear 42 = .ok (.iload_n 2, 1) := by decide +kernel
theorem dX4_clear_43 : decode cX4_clear 43 = .ok (.iadd, 1) := by decide +kernel
theorem dX4_clear_44 : decode cX4_clear 44 = .ok (.iconst 0, 1) := by decide +kernel
theorem dX4_clear_45 : decode cX4_clear 45 = .ok (.iastore, 1) := by decide +kernel
theorem dX4_clear_46 : decode cX4_clear 46 = .ok (.iinc 2 1, 3) := by decide +kernel
theorem dX4_clear_49 : decode cX4_clear 49 = .ok (.goto (-21), 3) := by decide +kernel
theorem dX4_clear_52 : decode cX4_clear 52 = .ok (.aload_n 0, 1) := by decide +kernel
theorem dX4_clear_53 : decode cX4_clear 53 = .ok (.getfield 18, 3) := by decide +kernel
theorem dX4_clear_56 : decode cX4_clear 56 = .ok (.iload_n 1, 1) := by decide +kernel
theorem dX4_clear_57 : decode cX4_clear 57 = .ok (.iconst 0, 1) := by decide +kernel
theorem dX4_clear_58 : decode cX4_clear 58 = .ok (.iastore, 1) := by decide +kernel
theorem dX4_clear_59 : decode cX4_clear 59 = .ok (.aload_n 0, 1) := by decide +kernel
theorem dX4_clear_60 : decode cX4_clear 60 = .ok (.getfield 21, 3) := by decide +kernel
theorem dX4_clear_63 : decode cX4_clear 63 = .ok (.iload_n 1, 1) := by decide +kernel
theorem dX4_clear_64 : decode cX4_clear 64 = .ok (.iconst 0, 1) := by decide +kernel
theorem dX4_clear_65 : decode cX4_clear 65 = .ok (.iastore, 1) := by decide +kernel
theorem dX4_clear_66 : decode cX4_clear 66 = .ok (.return_, 1) := by decide +kernel
theorem dX4_isFull_0 : decode cX4_isFull 0 = .ok (.aload_n 0, 1) := by decide +kernel
theorem dX4_isFull_1 : decode cX4_isFull 1 = .ok (.getfield 21, 3) := by decide +kernel
theorem dX4_isFull_4 : decode cX4_isFull 4 = .ok (.iload_n 1, 1) := by decide +kernel
theorem dX4_isFull_5 : decode cX4_isFull 5 = .ok (.iaload, 1) := by decide +kernel
theorem dX4_isFull_6 : decode cX4_isFull 6 = .ok (.iconst 4, 1) := by decide +kernel
theorem dX4_isFull_7 : decode cX4_isFull 7 = .ok (.if_icmp .lt 7, 3) := by decide +kernel
theorem dX4_isFull_10 : decode cX4_isFull 10 = .ok (.iconst 1, 1) := by decide +kernel
theorem dX4_isFull_11 : decode cX4_isFull 11 = .ok (.goto 4, 3) := by decide +kernel
theorem dX4_isFull_14 : decode cX4_isFull 14 = .ok (.iconst 0, 1) := by decide +kernel
theorem dX4_isFull_15 : decode cX4_isFull 15 = .ok (.ireturn, 1) := by decide +kernel
theorem dX4_addPost_0 : decode cX4_addPost 0 = .ok (.aload_n 0, 1) := by decide +kernel
theorem dX4_addPost_1 : decode cX4_addPost 1 = .ok (.getfield 21, 3) := by decide +kernel
theorem dX4_addPost_4 : decode cX4_addPost 4 = .ok (.iload_n 1, 1) := by decide +kernel
theorem dX4_addPost_5 : decode cX4_addPost 5 = .ok (.dup2, 1) := by decide +kernel
theorem dX4_addPost_6 : decode cX4_addPost 6 = .ok (.iaload, 1) := by decide +kernel
theorem dX4_addPost_7 : decode cX4_addPost 7 = .ok (.iconst 1, 1) := by decide +kernel
theorem dX4_addPost_8 : decode cX4_addPost 8 = .ok (.iadd, 1) := by decide +kernel
theorem dX4_addPost_9 : decode cX4_addPost 9 = .ok (.iastore, 1) := by decide +kernel
theorem dX4_addPost_10 : decode cX4_addPost 10 = .ok (.return_, 1) := by decide +kernel
theorem dX4_addCount_0 : decode cX4_addCount 0 = .ok (.aload_n 0, 1) := by decide +kernel
theorem dX4_addCount_1 : decode cX4_addCount 1 = .ok (.getfield 9, 3) := by decide +kernel
theorem dX4_addCount_4 : decode cX4_addCount 4 = .ok (.iload_n 1, 1) := by decide +kernel
theorem dX4_addCount_5 : decode cX4_addCount 5 = .ok (.bipush 7, 2) := by decide +kernel
theorem dX4_addCount_7 : decode cX4_addCount 7 = .ok (.imul, 1) := by decide +kernel
theorem dX4_addCount_8 : decode cX4_addCount 8 = .ok (.iload_n 2, 1) := by decide +kernel
theorem dX4_addCount_9 : decode cX4_addCount 9 = .ok (.bipush 7, 2) := by decide +kernel
theorem dX4_addCount_11 : decode cX4_addCount 11 = .ok (.irem, 1) := by decide +kernel
theorem dX4_addCount_12 : decode cX4_addCount 12 = .ok (.iadd, 1) := by decide +kernel
theorem dX4_addCount_13 : decode cX4_addCount 13 = .ok (.dup2, 1) := by decide +kernel
theorem dX4_addCount_14 : decode cX4_addCount 14 = .ok (.iaload, 1) := by decide +kernel
theorem dX4_addCount_15 : decode cX4_addCount 15 = .ok (.iload_n 3, 1) := by decide +kernel
theorem dX4_addCount_16 : decode cX4_addCount 16 = .ok (.iadd, 1) := by decide +kernel
theorem dX4_addCount_17 : decode cX4_addCount 17 = .ok (.iastore, 1) := by decide +kernel
theorem dX4_addCount_18 : decode cX4_addCount 18 = .ok (.aload_n 0, 1) := by decide +kernel
theorem dX4_addCount_19 : decode cX4_addCount 19 = .ok (.getfield 15, 3) := by decide +kernel
theorem dX4_addCount_22 : decode cX4_addCount 22 = .ok (.iload_n 1, 1) := by decide +kernel
theorem dX4_addCount_23 : decode cX4_addCount 23 = .ok (.bipush 12, 2) := by decide +kernel
theorem dX4_addCount_25 : decode cX4_addCount 25 = .ok (.imul, 1) := by decide +kernel
theorem dX4_addCount_26 : decode cX4_addCount 26 = .ok (.iload_n 2, 1) := by decide +kernel
theorem dX4_addCount_27 : decode cX4_addCount 27 = .ok (.bipush 7, 2) := by decide +kernel
theorem dX4_addCount_29 : decode cX4_addCount 29 = .ok (.idiv, 1) := by decide +kernel
theorem dX4_addCount_30 : decode cX4_addCount 30 = .ok (.iadd, 1) := by decide +kernel
theorem dX4_addCount_31 : decode cX4_addCount 31 = .ok (.dup2, 1) := by decide +kernel
theorem dX4_addCount_32 : decode cX4_addCount 32 = .ok (.iaload, 1) := by decide +kernel
theorem dX4_addCount_33 : decode cX4_addCount 33 = .ok (.iload_n 3, 1) := by decide +kernel
theorem dX4_addCount_34 : decode cX4_addCount 34 = .ok (.iadd, 1) := by decide +kernel
theorem dX4_addCount_35 : decode cX4_addCount 35 = .ok (.iastore, 1) := by decide +kernel
theorem dX4_addCount_36 : decode cX4_addCount 36 = .ok (.aload_n 0, 1) := by decide +kernel
theorem dX4_addCount_37 : decode cX4_addCount 37 = .ok (.getfield 18, 3) := by decide +kernel
theorem dX4_addCount_40 : decode cX4_addCount 40 = .ok (.iload_n 1, 1) := by decide +kernel
theorem dX4_addCount_41 : decode cX4_addCount 41 = .ok (.dup2, 1) := by decide +kernel
theorem dX4_addCount_42 : decode cX4_addCount 42 = .ok (.iaload, 1) := by decide +kernel
theorem dX4_addCount_43 : decode cX4_addCount 43 = .ok (.iload_n 3, 1) := by decide +kernel
theorem dX4_addCount_44 : decode cX4_addCount 44 = .ok (.iadd, 1) := by decide +kernel
theorem dX4_addCount_45 : decode cX4_addCount 45 = .ok (.iastore, 1) := by decide +kernel
theorem dX4_addCount_46 : decode cX4_addCount 46 = .ok (.return_, 1) := by decide +kernel
theorem dX4_numberOfPosts_0 : decode cX4_numberOfPosts 0 = .ok (.aload_n 0, 1) := by decide +kernel
theorem dX4_numberOfPosts_1 : decode cX4_numberOfPosts 1 = .ok (.getfield 21, 3) := by decide +kernel
theorem dX4_numberOfPosts_4 : decode cX4_numberOfPosts 4 = .ok (.iload_n 1, 1) := by decide +kernel
theorem dX4_numberOfPosts_5 : decode cX4_numberOfPosts 5 = .ok (.iaload, 1) := by decide +kernel
theorem dX4_numberOfPosts_6 : decode cX4_numberOfPosts 6 = .ok (.ireturn, 1) := by decide +kernel
theorem dX4_isThere_0 : decode cX4_isThere 0 = .ok (.aload_n 0, 1) := by decide +kernel
theorem dX4_isThere_1 : decode cX4_isThere 1 = .ok (.getfield 21, 3) := by decide +kernel
theorem dX4_isThere_4 : decode cX4_isThere 4 = .ok (.iload_n 1, 1) := by decide +kernel
theorem dX4_isThere_5 : decode cX4_isThere 5 = .ok (.iaload, 1) := by decide +kernel
theorem dX4_isThere_6 : decode cX4_isThere 6 = .ok (.ifCond .le 16, 3) := by decide +kernel
theorem dX4_isThere_9 : decode cX4_isThere 9 = .ok (.aload_n 0, 1) := by decide +kernel
theorem dX4_isThere_10 : decode cX4_isThere 10 = .ok (.getfield 18, 3) := by decide +kernel
theorem dX4_isThere_13 : decode cX4_isThere 13 = .ok (.iload_n 1, 1) := by decide +kernel
theorem dX4_isThere_14 : decode cX4_isThere 14 = .ok (.iaload, 1) := by decide +kernel
theorem dX4_isThere_15 : decode cX4_isThere 15 = .ok (.ifCond .eq 7, 3) := by decide +kernel
theorem dX4_isThere_18 : decode cX4_isThere 18 = .ok (.iconst 1, 1) := by decide +kernel
theorem dX4_isThere_19 : decode cX4_isThere 19 = .ok (.goto 4, 3) := by decide +kernel
theorem dX4_isThere_22 : decode cX4_isThere 22 = .ok (.iconst 0, 1) := by decide +kernel
theorem dX4_isThere_23 : decode cX4_isThere 23 = .ok (.ireturn, 1) := by decide +kernel
theorem dX4_value_0 : decode cX4_value 0 = .ok (.aload_n 0, 1) := by decide +kernel
theorem dX4_value_1 : decode cX4_value 1 = .ok (.getfield 9, 3) := by decide +kernel
theorem dX4_value_4 : decode cX4_value 4 = .ok (.iload_n 1, 1) := by decide +kernel
theorem dX4_value_5 : decode cX4_value 5 = .ok (.bipush 7, 2) := by decide +kernel
theorem dX4_value_7 : decode cX4_value 7 = .ok (.imul, 1) := by decide +kernel
theorem dX4_value_8 : decode cX4_value 8 = .ok (.iload_n 2, 1) := by decide +kernel
theorem dX4_value_9 : decode cX4_value 9 = .ok (.bipush 7, 2) := by decide +kernel
theorem dX4_value_11 : decode cX4_value 11 = .ok (.irem, 1) := by decide +kernel
theorem dX4_value_12 : decode cX4_value 12 = .ok (.iadd, 1) := by decide +kernel
theorem dX4_value_13 : decode cX4_value 13 = .ok (.iaload, 1) := by decide +kernel
theorem dX4_value_14 : decode cX4_value 14 = .ok (.aload_n 0, 1) := by decide +kernel
theorem dX4_value_15 : decode cX4_value 15 = .ok (.getfield 15, 3) := by decide +kernel
theorem dX4_value_18 : decode cX4_value 18 = .ok (.iload_n 1, 1) := by decide +kernel
theorem dX4_value_19 : decode cX4_value 19 = .ok (.bipush 12, 2) := by decide +kernel
theorem dX4_value_21 : decode cX4_value 21 = .ok (.imul, 1) := by decide +kernel
theorem dX4_value_22 : decode cX4_value 22 = .ok (.iload_n 2, 1) := by decide +kernel
theorem dX4_value_23 : decode cX4_value 23 = .ok (.bipush 7, 2) := by decide +kernel
theorem dX4_value_25 : decode cX4_value 25 = .ok (.idiv, 1) := by decide +kernel
theorem dX4_value_26 : decode cX4_value 26 = .ok (.iadd, 1) := by decide +kernel
theorem dX4_value_27 : decode cX4_value 27 = .ok (.iaload, 1) := by decide +kernel
theorem dX4_value_28 : decode cX4_value 28 = .ok (.imul, 1) := by decide +kernel
theorem dX4_value_29 : decode cX4_value 29 = .ok (.ireturn, 1) := by decide +kernel
theorem dX4_valueOfYear_0 : decode cX4_valueOfYear 0 = .ok (.aload_n 0, 1) := by decide +kernel
theorem dX4_valueOfYear_1 : decode cX4_valueOfYear 1 = .ok (.getfield 18, 3) := by decide +kernel
theorem dX4_valueOfYear_4 : decode cX4_valueOfYear 4 = .ok (.iload_n 1, 1) := by decide +kernel
theorem dX4_valueOfYear_5 : decode cX4_valueOfYear 5 = .ok (.iaload, 1) := by decide +kernel
theorem dX4_valueOfYear_6 : decode cX4_valueOfYear 6 = .ok (.i2l, 1) := by decide +kernel
theorem dX4_valueOfYear_7 : decode cX4_valueOfYear 7 = .ok (.aload_n 0, 1) := by decide +kernel
theorem dX4_valueOfYear_8 : decode cX4_valueOfYear 8 = .ok (.getfield 18, 3) := by decide +kernel
theorem dX4_valueOfYear_11 : decode cX4_valueOfYear 11 = .ok (.iload_n 1, 1) := by decide +kernel
theorem dX4_valueOfYear_12 : decode cX4_valueOfYear 12 = .ok (.iaload, 1) := by decide +kernel
theorem dX4_valueOfYear_13 : decode cX4_valueOfYear 13 = .ok (.i2l, 1) := by decide +kernel
theorem dX4_valueOfYear_14 : decode cX4_valueOfYear 14 = .ok (.lmul, 1) := by decide +kernel
theorem dX4_valueOfYear_15 : decode cX4_valueOfYear 15 = .ok (.lreturn, 1) := by decide +kernel
theorem dX5_init_0 : decode cX5_init 0 = .ok (.aload_n 0, 1) := by decide +kernel
theorem dX5_init_1 : decode cX5_init 1 = .ok (.invokespecial 3, 3) := by decide +kernel
theorem dX5_init_4 : decode cX5_init 4 = .ok (.aload_n 0, 1) := by decide +kernel
theorem dX5_init_5 : decode cX5_init 5 = .ok (.sipush 200, 3) := by decide +kernel
theorem dX5_init_8 : decode cX5_init 8 = .ok (.newarray .int, 2) := by decide +kernel
theorem dX5_init_10 : decode cX5_init 10 = .ok (.putfield 9, 3) := by decide +kernel
theorem dX5_init_13 : decode cX5_init 13 = .ok (.aload_n 0, 1) := by decide +kernel
theorem dX5_init_14 : decode cX5_init 14 = .ok (.iconst 0, 1) := by decide +kernel
theorem dX5_init_15 : decode cX5_init 15 = .ok (.putfield 15, 3) := by decide +kernel
theorem dX5_init_18 : decode cX5_init 18 = .ok (.return_, 1) := by decide +kernel
theorem dX5_length_0 : decode cX5_length 0 = .ok (.aload_n 0, 1) := by decide +kernel
theorem dX5_length_1 : decode cX5_length 1 = .ok (.getfield 15, 3) := by decide +kernel
theorem dX5_length_4 : decode cX5_length 4 = .ok (.ireturn, 1) := by decide +kernel
theorem dX5_at_0 : decode cX5_at 0 = .ok (.iload_n 1, 1) := by decide +kernel
theorem dX5_at_1 : decode cX5_at 1 = .ok (.aload_n 0, 1) := by decide +kernel
theorem dX5_at_2 : decode cX5_at 2 = .ok (.getfield 15, 3) := by decide +kernel
theorem dX5_at_5 : decode cX5_at 5 = .ok (.invokestatic 19, 3) := by decide +kernel
theorem dX5_at_8 : decode cX5_at 8 = .ok (.ifCond .eq 12, 3) := by decide +kernel
theorem dX5_at_11 : decode cX5_at 11 = .ok (.aload_n 0, 1) := by decide +kernel
theorem dX5_at_12 : decode cX5_at 12 = .ok (.getfield 9, 3) := by decide +kernel
theorem dX5_at_15 : decode cX5_at 15 = .ok (.iload_n 1, 1) := by decide +kernel
theorem dX5_at_16 : decode cX5_at 16 = .ok (.iaload, 1) := by decide +kernel
theorem dX5_at_17 : decode cX5_at 17 = .ok (.goto 4, 3) := by decide +kernel
theorem dX5_at_20 : decode cX5_at 20 = .ok (.iconst 0, 1) := by decide +kernel
theorem dX5_at_21 : decode cX5_at 21 = .ok (.ireturn, 1) := by decide +kernel
theorem dX5_append_0 : decode cX5_append 0 = .ok (.bipush 24, 2) := by decide +kernel
theorem dX5_append_2 : decode cX5_append 2 = .ok (.istore_n 2, 1) := by decide +kernel
theorem dX5_append_3 : decode cX5_append 3 = .ok (.iload_n 2, 1) := by decide +kernel
theorem dX5_append_4 : decode cX5_append 4 = .ok (.ifCond .lt 45, 3) := by decide +kernel
theorem dX5_append_7 : decode cX5_append 7 = .ok (.aload_n 0, 1) := by decide +kernel
theorem dX5_append_8 : decode cX5_append 8 = .ok (.getfield 15, 3) := by decide +kernel
theorem dX5_append_11 : decode cX5_append 11 = .ok (.sipush 200, 3) := by decide +kernel
theorem dX5_append_14 : decode cX5_append 14 = .ok (.if_icmp .ge 35, 3) := by decide +kernel
theorem dX5_append_17 : decode cX5_append 17 = .ok (.aload_n 0, 1) := by decide +kernel
theorem dX5_append_18 : decode cX5_append 18 = .ok (.getfield 9, 3) := by decide +kernel
theorem dX5_append_21 : decode cX5_append 21 = .ok (.aload_n 0, 1) := by decide +kernel
theorem dX5_append_22 : decode cX5_append 22 = .ok (.getfield 15, 3) := by decide +kernel
theorem dX5_append_25 : decode cX5_append 25 = .ok (.iload_n 1, 1) := by decide +kernel
theorem dX5_append_26 : decode cX5_append 26 = .ok (.iload_n 2, 1) := by decide +kernel
theorem dX5_append_27 : decode cX5_append 27 = .ok (.iushr, 1) := by decide +kernel
theorem dX5_append_28 : decode cX5_append 28 = .ok (.sipush 255, 3) := by decide +kernel
theorem dX5_append_31 : decode cX5_append 31 = .ok (.iand, 1) := by decide +kernel
theorem dX5_append_32 : decode cX5_append 32 = .ok (.iastore, 1) := by decide +kernel
theorem dX5_append_33 : decode cX5_append 33 = .ok (.aload_n 0, 1) := by decide +kernel
theorem dX5_append_34 : decode cX5_append 34 = .ok (.dup, 1) := by decide +kernel
theorem dX5_append_35 : decode cX5_append 35 = .ok (.getfield 15, 3) := by decide +kernel
theorem dX5_append_38 : decode cX5_append 38 = .ok (.iconst 1, 1) := by decide +kernel
theorem dX5_append_39 : decode cX5_append 39 = .ok (.iadd, 1) := by decide +kernel
theorem dX5_append_40 : decode cX5_append 40 = .ok (.putfield 15, 3) := by decide +kernel
theorem dX5_append_43 : decode cX5_append 43 = .ok (.iinc 2 (-8), 3) := by decide +kernel
theorem dX5_append_46 : decode cX5_append 46 = .ok (.goto (-43), 3) := by decide +kernel
theorem dX5_append_49 : decode cX5_append 49 = .ok (.return_, 1) := by decide +kernel
theorem dX5_cut_0 : decode cX5_cut 0 = .ok (.iload_n 1, 1) := by decide +kernel
theorem dX5_cut_1 : decode cX5_cut 1 = .ok (.ifCond .lt 11, 3) := by decide +kernel
theorem dX5_cut_4 : decode cX5_cut 4 = .ok (.iload_n 1, 1) := by decide +kernel
theorem dX5_cut_5 : decode cX5_cut 5 = .ok (.aload_n 0, 1) := by decide +kernel
theorem dX5_cut_6 : decode cX5_cut 6 = .ok (.getfield 15, 3) := by decide +kernel
theorem dX5_cut_9 : decode cX5_cut 9 = .ok (.if_icmp .le 5, 3) := by decide +kernel
theorem dX5_cut_12 : decode cX5_cut 12 = .ok (.iconst 0, 1) := by decide +kernel
theorem dX5_cut_13 : decode cX5_cut 13 = .ok (.ireturn, 1) := by decide +kernel
theorem dX5_cut_14 : decode cX5_cut 14 = .ok (.aload_n 0, 1) := by decide +kernel
theorem dX5_cut_15 : decode cX5_cut 15 = .ok (.iload_n 1, 1) := by decide +kernel
theorem dX5_cut_16 : decode cX5_cut 16 = .ok (.putfield 15, 3) := by decide +kernel
theorem dX5_cut_19 : decode cX5_cut 19 = .ok (.iconst 1, 1) := by decide +kernel
theorem dX5_cut_20 : decode cX5_cut 20 = .ok (.ireturn, 1) := by decide +kernel
theorem dX5_holdsCountsAlone_0 : decode cX5_holdsCountsAlone 0 = .ok (.iconst 0, 1) := by decide +kernel
theorem dX5_holdsCountsAlone_1 : decode cX5_holdsCountsAlone 1 = .ok (.istore_n 1, 1) := by decide +kernel
theorem dX5_holdsCountsAlone_2 : decode cX5_holdsCountsAlone 2 = .ok (.iload_n 1, 1) := by decide +kernel
theorem dX5_holdsCountsAlone_3 : decode cX5_holdsCountsAlone 3 = .ok (.aload_n 0, 1) := by decide +kernel
theorem dX5_holdsCountsAlone_4 : decode cX5_holdsCountsAlone 4 = .ok (.getfield 15, 3) := by decide +kernel
theorem dX5_holdsCountsAlone_7 : decode cX5_holdsCountsAlone 7 = .ok (.if_icmp .ge 34, 3) := by decide +kernel
theorem dX5_holdsCountsAlone_10 : decode cX5_holdsCountsAlone 10 = .ok (.aload_n 0, 1) := by decide +kernel
theorem dX5_holdsCountsAlone_11 : decode cX5_holdsCountsAlone 11 = .ok (.getfield 9, 3) := by decide +kernel
theorem dX5_holdsCountsAlone_14 : decode cX5_holdsCountsAlone 14 = .ok (.iload_n 1, 1) := by decide +kernel
theorem dX5_holdsCountsAlone_15 : decode cX5_holdsCountsAlone 15 = .ok (.iaload, 1) := by decide +kernel
theorem dX5_holdsCountsAlone_16 : decode cX5_holdsCountsAlone 16 = .ok (.bipush 50, 2) := by decide +kernel
theorem dX5_holdsCountsAlone_18 : decode cX5_holdsCountsAlone 18 = .ok (.if_icmp .le 17, 3) := by decide +kernel
theorem dX5_holdsCountsAlone_21 : decode cX5_holdsCountsAlone 21 = .ok (.aload_n 0, 1) := by decide +kernel
theorem dX5_holdsCountsAlone_22 : decode cX5_holdsCountsAlone 22 = .ok (.getfield 9, 3) := by decide +kernel
theorem dX5_holdsCountsAlone_25 : decode cX5_holdsCountsAlone 25 = .ok (.iload_n 1, 1) := by decide +kernel
theorem dX5_holdsCountsAlone_26 : decode cX5_holdsCountsAlone 26 = .ok (.iaload, 1) := by decide +kernel
theorem dX5_holdsCountsAlone_27 : decode cX5_holdsCountsAlone 27 = .ok (.sipush 255, 3) := by decide +kernel
theorem dX5_holdsCountsAlone_30 : decode cX5_holdsCountsAlone 30 = .ok (.if_icmp .eq 5, 3) := by decide +kernel
theorem dX5_holdsCountsAlone_33 : decode cX5_holdsCountsAlone 33 = .ok (.iconst 0, 1) := by decide +kernel
theorem dX5_holdsCountsAlone_34 : decode cX5_holdsCountsAlone 34 = .ok (.ireturn, 1) := by decide +kernel
theorem dX5_holdsCountsAlone_35 : decode cX5_holdsCountsAlone 35 = .ok (.iinc 1 1, 3) := by decide +kernel
theorem dX5_holdsCountsAlone_38 : decode cX5_holdsCountsAlone 38 = .ok (.goto (-36), 3) := by decide +kernel
theorem dX5_holdsCountsAlone_41 : decode cX5_holdsCountsAlone 41 = .ok (.iconst 1, 1) := by decide +kernel
theorem dX5_holdsCountsAlone_42 : decode cX5_holdsCountsAlone 42 = .ok (.ireturn, 1) := by decide +kernel
theorem dX6_init_0 : decode cX6_init 0 = .ok (.aload_n 0, 1) := by decide +kernel
theorem dX6_init_1 : decode cX6_init 1 = .ok (.invokespecial 3, 3) := by decide +kernel
theorem dX6_init_4 : decode cX6_init 4 = .ok (.aload_n 0, 1) := by decide +kernel
theorem dX6_init_5 : decode cX6_init 5 = .ok (.aload_n 1, 1) := by decide +kernel
theorem dX6_init_6 : decode cX6_init 6 = .ok (.putfield 9, 3) := by decide +kernel
theorem dX6_init_9 : decode cX6_init 9 = .ok (.aload_n 0, 1) := by decide +kernel
theorem dX6_init_10 : decode cX6_init 10 = .ok (.aload_n 2, 1) := by decide +kernel
theorem dX6_init_11 : decode cX6_init 11 = .ok (.putfield 15, 3) := by decide +kernel
theorem dX6_init_14 : decode cX6_init 14 = .ok (.aload_n 0, 1) := by decide +kernel
theorem dX6_init_15 : decode cX6_init 15 = .ok (.new 19, 3) := by decide +kernel
theorem dX6_init_18 : decode cX6_init 18 = .ok (.dup, 1) := by decide +kernel
theorem dX6_init_19 : decode cX6_init 19 = .ok (.invokespecial 21, 3) := by decide +kernel
theorem dX6_init_22 : decode cX6_init 22 = .ok (.putfield 22, 3) := by decide +kernel
theorem dX6_init_25 : decode cX6_init 25 = .ok (.aload_n 0, 1) := by decide +kernel
theorem dX6_init_26 : decode cX6_init 26 = .ok (.bipush 16, 2) := by decide +kernel
theorem dX6_init_28 : decode cX6_init 28 = .ok (.newarray .boolean, 2) := by decide +kernel
theorem dX6_init_30 : decode cX6_init 30 = .ok (.putfield 26, 3) := by decide +kernel
theorem dX6_init_33 : decode cX6_init 33 = .ok (.aload_n 0, 1) := by decide +kernel
theorem dX6_init_34 : decode cX6_init 34 = .ok (.bipush 14, 2) := by decide +kernel
theorem dX6_init_36 : decode cX6_init 36 = .ok (.newarray .int, 2) := by decide +kernel
theorem dX6_init_38 : decode cX6_init 38 = .ok (.putfield 30, 3) := by decide +kernel
theorem dX6_init_41 : decode cX6_init 41 = .ok (.aload_n 0, 1) := by decide +kernel
theorem dX6_init_42 : decode cX6_init 42 = .ok (.bipush 14, 2) := by decide +kernel
theorem dX6_init_44 : decode cX6_init 44 = .ok (.newarray .int, 2) := by decide +kernel
theorem dX6_init_46 : decode cX6_init 46 = .ok (.putfield 34, 3) := by decide +kernel
theorem dX6_init_49 : decode cX6_init 49 = .ok (.aload_n 0, 1) := by decide +kernel
theorem dX6_init_50 : decode cX6_init 50 = .ok (.iconst 0, 1) := by decide +kernel
theorem dX6_init_51 : decode cX6_init 51 = .ok (.putfield 37, 3) := by decide +kernel
theorem dX6_init_54 : decode cX6_init 54 = .ok (.aload_n 0, 1) := by decide +kernel
theorem dX6_init_55 : decode cX6_init 55 = .ok (.iconst 5, 1) := by decide +kernel
theorem dX6_init_56 : decode cX6_init 56 = .ok (.newarray .long, 2) := by decide +kernel
theorem dX6_init_58 : decode cX6_init 58 = .ok (.putfield 41, 3) := by decide +kernel
theorem dX6_init_61 : decode cX6_init 61 = .ok (.aload_n 0, 1) := by decide +kernel
theorem dX6_init_62 : decode cX6_init 62 = .ok (.iconst 5, 1) := by decide +kernel
theorem dX6_init_63 : decode cX6_init 63 = .ok (.newarray .long, 2) := by decide +kernel
theorem dX6_init_65 : decode cX6_init 65 = .ok (.putfield 45, 3) := by decide +kernel
theorem dX6_init_68 : decode cX6_init 68 = .ok (.aload_n 0, 1) := by decide +kernel
theorem dX6_init_69 : decode cX6_init 69 = .ok (.bipush 16, 2) := by decide +kernel
theorem dX6_init_71 : decode cX6_init 71 = .ok (.newarray .int, 2) := by decide +kernel
theorem dX6_init_73 : decode cX6_init 73 = .ok (.putfield 48, 3) := by decide +kernel
theorem dX6_init_76 : decode cX6_init 76 = .ok (.aload_n 0, 1) := by decide +kernel
theorem dX6_init_77 : decode cX6_init 77 = .ok (.bipush 16, 2) := by decide +kernel
theorem dX6_init_79 : decode cX6_init 79 = .ok (.newarray .int, 2) := by decide +kernel
theorem dX6_init_81 : decode cX6_init 81 = .ok (.putfield 51, 3) := by decide +kernel
theorem dX6_init_84 : decode cX6_init 84 = .ok (.aload_n 0, 1) := by decide +kernel
theorem dX6_init_85 : decode cX6_init 85 = .ok (.new 54, 3) := by decide +kernel
theorem dX6_init_88 : decode cX6_init 88 = .ok (.dup, 1) := by decide +kernel
theorem dX6_init_89 : decode cX6_init 89 = .ok (.invokespecial 56, 3) := by decide +kernel
theorem dX6_init_92 : decode cX6_init 92 = .ok (.putfield 57, 3) := by decide +kernel
theorem dX6_init_95 : decode cX6_init 95 = .ok (.aload_n 0, 1) := by decide +kernel
theorem dX6_init_96 : decode cX6_init 96 = .ok (.iconst 0, 1) := by decide +kernel
theorem dX6_init_97 : decode cX6_init 97 = .ok (.putfield 61, 3) := by decide +kernel
theorem dX6_init_100 : decode cX6_init 100 = .ok (.aload_n 0, 1) := by decide +kernel
theorem dX6_init_101 : decode cX6_init 101 = .ok (.iconst (-1), 1) := by decide +kernel
theorem dX6_init_102 : decode cX6_init 102 = .ok (.putfield 65, 3) := by decide +kernel
theorem dX6_init_105 : decode cX6_init 105 = .ok (.return_, 1) := by decide +kernel
theorem dX6_forget_0 : decode cX6_forget 0 = .ok (.aload_n 0, 1) := by decide +kernel
theorem dX6_forget_1 : decode cX6_forget 1 = .ok (.iconst (-1), 1) := by decide +kernel
theorem dX6_forget_2 : decode cX6_forget 2 = .ok (.putfield 65, 3) := by decide +kernel
theorem dX6_forget_5 : decode cX6_forget 5 = .ok (.return_, 1) := by decide +kernel
theorem dX6_lookAt_0 : decode cX6_lookAt 0 = .ok (.iload_n 1, 1) := by decide +kernel
theorem dX6_lookAt_1 : decode cX6_lookAt 1 = .ok (.aload_n 0, 1) := by decide +kernel
theorem dX6_lookAt_2 : decode cX6_lookAt 2 = .ok (.getfield 65, 3) := by decide +kernel
theorem dX6_lookAt_5 : decode cX6_lookAt 5 = .ok (.if_icmp .ne 4, 3) := by decide +kernel
theorem dX6_lookAt_8 : decode cX6_lookAt 8 = .ok (.return_, 1) := by decide +kernel
theorem dX6_lookAt_9 : decode cX6_lookAt 9 = .ok (.aload_n 0, 1) := by decide +kernel
theorem dX6_lookAt_10 : decode cX6_lookAt 10 = .ok (.iload_n 1, 1) := by decide +kernel
theorem dX6_lookAt_11 : decode cX6_lookAt 11 = .ok (.putfield 65, 3) := by decide +kernel
theorem dX6_lookAt_14 : decode cX6_lookAt 14 = .ok (.aload_n 0, 1) := by decide +kernel
theorem dX6_lookAt_15 : decode cX6_lookAt 15 = .ok (.iconst 0, 1) := by decide +kernel
theorem dX6_lookAt_16 : decode cX6_lookAt 16 = .ok (.putfield 61, 3) := by decide +kernel
theorem dX6_lookAt_19 : decode cX6_lookAt 19 = .ok (.iconst 0, 1) := by decide +kernel
theorem dX6_lookAt_20 : decode cX6_lookAt 20 = .ok (.istore_n 2, 1) := by decide +kernel
theorem dX6_lookAt_21 : decode cX6_lookAt 21 = .ok (.iload_n 2, 1) := by decide +kernel
theorem dX6_lookAt_22 : decode cX6_lookAt 22 = .ok (.bipush 16, 2) := by decide +kernel
theorem dX6_lookAt_24 : decode cX6_lookAt 24 = .ok (.if_icmp .ge 39, 3) := by decide +kernel
theorem dX6_lookAt_27 : decode cX6_lookAt 27 = .ok (.aload_n 0, 1) := by decide +kernel
theorem dX6_lookAt_28 : decode cX6_lookAt 28 = .ok (.getfield 26, 3) := by decide +kernel
theorem dX6_lookAt_31 : decode cX6_lookAt 31 = .ok (.iload_n 2, 1) := by decide +kernel
theorem dX6_lookAt_32 : decode cX6_lookAt 32 = .ok (.aload_n 0, 1) := by decide +kernel
theorem dX6_lookAt_33 : decode cX6_lookAt 33 = .ok (.getfield 9, 3) := by decide +kernel
theorem dX6_lookAt_36 : decode cX6_lookAt 36 = .ok (.iload_n 2, 1) := by decide +kernel
theorem dX6_lookAt_37 : decode cX6_lookAt 37 = .ok (.invokevirtual 68, 3) := by decide +kernel
theorem dX6_lookAt_40 : decode cX6_lookAt 40 = .ok (.ifCond .eq 15, 3) := by decide +kernel
theorem dX6_lookAt_43 : decode cX6_lookAt 43 = .ok (.aload_n 0, 1) := by decide +kernel
theorem dX6_lookAt_44 : decode cX6_lookAt 44 = .ok (.iload_n 2, 1) := by decide +kernel
theorem dX6_lookAt_45 : decode cX6_lookAt 45 = .ok (.invokevirtual 74, 3) := by decide +kernel
theorem dX6_lookAt_48 : decode cX6_lookAt 48 = .ok (.ifCond .eq 7, 3) := by decide +kernel
theorem dX6_lookAt_51 : decode cX6_lookAt 51 = .ok (.iconst 1, 1) := by decide +kernel
theorem dX6_lookAt_52 : decode cX6_lookAt 52 = .ok (.goto 4, 3) := by decide +kernel
theorem dX6_lookAt_55 : decode cX6_lookAt 55 = .ok (.iconst 0, 1) := by decide +kernel
theorem dX6_lookAt_56 : decode cX6_lookAt 56 = .ok (.bastore, 1) := by decide +kernel
theorem dX6_lookAt_57 : decode cX6_lookAt 57 = .ok (.iinc 2 1, 3) := by decide +kernel
theorem dX6_lookAt_60 : decode cX6_lookAt 60 = .ok (.goto (-39), 3) := by decide +kernel
theorem dX6_lookAt_63 : decode cX6_lookAt 63 = .ok (.iconst 0, 1) := by decide +kernel
theorem dX6_lookAt_64 : decode cX6_lookAt 64 = .ok (.istore_n 2, 1) := by decide +kernel
theorem dX6_lookAt_65 : decode cX6_lookAt 65 = .ok (.iload_n 2, 1) := by decide +kernel
theorem dX6_lookAt_66 : decode cX6_lookAt 66 = .ok (.iconst 4, 1) := by decide +kernel
theorem dX6_lookAt_67 : decode cX6_lookAt 67 = .ok (.if_icmp .ge 16, 3) := by decide +kernel
theorem dX6_lookAt_70 : decode cX6_lookAt 70 = .ok (.aload_n 0, 1) := by decide +kernel
theorem dX6_lookAt_71 : decode cX6_lookAt 71 = .ok (.iload_n 2, 1) := by decide +kernel
theorem dX6_lookAt_72 : decode cX6_lookAt 72 = .ok (.iload_n 2, 1) := by decide +kernel
theorem dX6_lookAt_73 : decode cX6_lookAt 73 = .ok (.iconst (-1), 1) := by decide +kernel
theorem dX6_lookAt_74 : decode cX6_lookAt 74 = .ok (.invokevirtual 77, 3) := by decide +kernel
theorem dX6_lookAt_77 : decode cX6_lookAt 77 = .ok (.iinc 2 1, 3) := by decide +kernel
theorem dX6_lookAt_80 : decode cX6_lookAt 80 = .ok (.goto (-15), 3) := by decide +kernel
theorem dX6_lookAt_83 : decode cX6_lookAt 83 = .ok (.return_, 1) := by decide +kernel
theorem dX6_isWholePost_0 : decode cX6_isWholePost 0 = .ok (.aload_n 0, 1) := by decide +kernel
theorem dX6_isWholePost_1 : decode cX6_isWholePost 1 = .ok (.getfield 26, 3) := by decide +kernel
theorem dX6_isWholePost_4 : decode cX6_isWholePost 4 = .ok (.iload_n 1, 1) := by decide +kernel
theorem dX6_isWholePost_5 : decode cX6_isWholePost 5 = .ok (.baload, 1) := by decide +kernel
theorem dX6_isWholePost_6 : decode cX6_isWholePost 6 = .ok (.ireturn, 1) := by decide +kernel
theorem dX6_isThere_0 : decode cX6_isThere 0 = .ok (.aload_n 0, 1) := by decide +kernel
theorem dX6_isThere_1 : decode cX6_isThere 1 = .ok (.getfield 22, 3) := by decide +kernel
theorem dX6_isThere_4 : decode cX6_isThere 4 = .ok (.iload_n 1, 1) := by decide +kernel
theorem dX6_isThere_5 : decode cX6_isThere 5 = .ok (.invokevirtual 81, 3) := by decide +kernel
theorem dX6_isThere_8 : decode cX6_isThere 8 = .ok (.ireturn, 1) := by decide +kernel
theorem dX6_postsOf_0 : decode cX6_postsOf 0 = .ok (.aload_n 0, 1) := by decide +kernel
theorem dX6_postsOf_1 : decode cX6_postsOf 1 = .ok (.getfield 22, 3) := by decide +kernel
theorem dX6_postsOf_4 : decode cX6_postsOf 4 = .ok (.iload_n 1, 1) := by decide +kernel
theorem dX6_postsOf_5 : decode cX6_postsOf 5 = .ok (.invokevirtual 84, 3) := by decide +kernel
theorem dX6_postsOf_8 : decode cX6_postsOf 8 = .ok (.ireturn, 1) := by decide +kernel
theorem dX6_dayValue_0 : decode cX6_dayValue 0 = .ok (.aload_n 0, 1) := by decide +kernel
theorem dX6_dayValue_1 : decode cX6_dayValue 1 = .ok (.getfield 22, 3) := by decide +kernel
theorem dX6_dayValue_4 : decode cX6_dayValue 4 = .ok (.iload_n 1, 1) := by decide +kernel
theorem dX6_dayValue_5 : decode cX6_dayValue 5 = .ok (.iload_n 2, 1) := by decide +kernel
theorem dX6_dayValue_6 : decode cX6_dayValue 6 = .ok (.invokevirtual 88, 3) := by decide +kernel
theorem dX6_dayValue_9 : decode cX6_dayValue 9 = .ok (.ireturn, 1) := by decide +kernel
theorem dX6_sampleSizeOf_0 : decode cX6_sampleSizeOf 0 = .ok (.aload_n 0, 1) := by decide +kernel
theorem dX6_sampleSizeOf_1 : decode cX6_sampleSizeOf 1 = .ok (.iload_n 1, 1) := by decide +kernel
theorem dX6_sampleSizeOf_2 : decode cX6_sampleSizeOf 2 = .ok (.aload_n 0, 1) := by decide +kernel
theorem dX6_sampleSizeOf_3 : decode cX6_sampleSizeOf 3 = .ok (.iload_n 1, 1) := by decide +kernel
theorem dX6_sampleSizeOf_4 : decode cX6_sampleSizeOf 4 = .ok (.invokevirtual 92, 3) := by decide +kernel
theorem dX6_sampleSizeOf_7 : decode cX6_sampleSizeOf 7 = .ok (.invokevirtual 95, 3) := by decide +kernel
theorem dX6_sampleSizeOf_10 : decode cX6_sampleSizeOf 10 = .ok (.aload_n 0, 1) := by decide +kernel
theorem dX6_sampleSizeOf_11 : decode cX6_sampleSizeOf 11 = .ok (.getfield 37, 3) := by decide +kernel
theorem dX6_sampleSizeOf_14 : decode cX6_sampleSizeOf 14 = .ok (.ireturn, 1) := by decide +kernel
theorem dX6_groupAtRank_0 : decode cX6_groupAtRank 0 = .ok (.aload_n 0, 1) := by decide +kernel
theorem dX6_groupAtRank_1 : decode cX6_groupAtRank 1 = .ok (.iload_n 1, 1) := by decide +kernel
theorem dX6_groupAtRank_2 : decode cX6_groupAtRank 2 = .ok (.aload_n 0, 1) := by decide +kernel
theorem dX6_groupAtRank_3 : decode cX6_groupAtRank 3 = .ok (.iload_n 1, 1) := by decide +kernel
theorem dX6_groupAtRank_4 : decode cX6_groupAtRank 4 = .ok (.invokevirtual 92, 3) := by decide +kernel
theorem dX6_groupAtRank_7 : decode cX6_groupAtRank 7 = .ok (.invokevirtual 95, 3) := by decide +kernel
theorem dX6_groupAtRank_10 : decode cX6_groupAtRank 10 = .ok (.iconst 0, 1) := by decide +kernel
theorem dX6_groupAtRank_11 : decode cX6_groupAtRank 11 = .ok (.istore_n 3, 1) := by decide +kernel
theorem dX6_groupAtRank_12 : decode cX6_groupAtRank 12 = .ok (.iload_n 3, 1) := by decide +kernel
theorem dX6_groupAtRank_13 : decode cX6_groupAtRank 13 = .ok (.iconst 4, 1) := by decide +kernel
theorem dX6_groupAtRank_14 : decode cX6_groupAtRank 14 = .ok (.if_icmp .ge 14, 3) := by decide +kernel
theorem dX6_groupAtRank_17 : decode cX6_groupAtRank 17 = .ok (.aload_n 0, 1) := by decide +kernel
theorem dX6_groupAtRank_18 : decode cX6_groupAtRank 18 = .ok (.iload_n 3, 1) := by decide +kernel
theorem dX6_groupAtRank_19 : decode cX6_groupAtRank 19 = .ok (.invokevirtual 99, 3) := by decide +kernel
theorem dX6_groupAtRank_22 : decode cX6_groupAtRank 22 = .ok (.iinc 3 1, 3) := by decide +kernel
theorem dX6_groupAtRank_25 : decode cX6_groupAtRank 25 = .ok (.goto (-13), 3) := by decide +kernel
theorem dX6_groupAtRank_28 : decode cX6_groupAtRank 28 = .ok (.iconst 0, 1) := by decide +kernel
theorem dX6_groupAtRank_29 : decode cX6_groupAtRank 29 = .ok (.istore_n 3, 1) := by decide +kernel
theorem dX6_groupAtRank_30 : decode cX6_groupAtRank 30 = .ok (.iload_n 3, 1) := by decide +kernel
theorem dX6_groupAtRank_31 : decode cX6_groupAtRank 31 = .ok (.iconst 4, 1) := by decide +kernel
theorem dX6_groupAtRank_32 : decode cX6_groupAtRank 32 = .ok (.if_icmp .ge 28, 3) := by decide +kernel
theorem dX6_groupAtRank_35 : decode cX6_groupAtRank 35 = .ok (.aload_n 0, 1) := by decide +kernel
theorem dX6_groupAtRank_36 : decode cX6_groupAtRank 36 = .ok (.iload_n 3, 1) := by decide +kernel
theorem dX6_groupAtRank_37 : decode cX6_groupAtRank 37 = .ok (.invokevirtual 103, 3) := by decide +kernel
theorem dX6_groupAtRank_40 : decode cX6_groupAtRank 40 = .ok (.ifCond .eq 14, 3) := by decide +kernel
theorem dX6_groupAtRank_43 : decode cX6_groupAtRank 43 = .ok (.aload_n 0, 1) := by decide +kernel
theorem dX6_groupAtRank_44 : decode cX6_groupAtRank 44 = .ok (.iload_n 3, 1) := by decide +kernel
theorem dX6_groupAtRank_45 : decode cX6_groupAtRank 45 = .ok (.invokevirtual 106, 3) := by decide +kernel
theorem dX6_groupAtRank_48 : decode cX6_groupAtRank 48 = .ok (.iload_n 2, 1) := by decide +kernel
theorem dX6_groupAtRank_49 : decode cX6_groupAtRank 49 = .ok (.if_icmp .ne 5, 3) := by decide +kernel
theorem dX6_groupAtRank_52 : decode cX6_groupAtRank 52 = .ok (.iload_n 3, 1) := by decide +kernel
theorem dX6_groupAtRank_53 : decode cX6_groupAtRank 53 = .ok (.ireturn, 1) := by decide +kernel
theorem dX6_groupAtRank_54 : decode cX6_groupAtRank 54 = .ok (.iinc 3 1, 3) := by decide +kernel
theorem dX6_groupAtRank_57 : decode cX6_groupAtRank 57 = .ok (.goto (-27), 3) := by decide +kernel
theorem dX6_groupAtRank_60 : decode cX6_groupAtRank 60 = .ok (.iconst (-1), 1) := by decide +kernel
theorem dX6_groupAtRank_61 : decode cX6_groupAtRank 61 = .ok (.ireturn, 1) := by decide +kernel
theorem dX6_putYear_0 : decode cX6_putYear 0 = .ok (.aload_n 0, 1) := by decide +kernel
theorem dX6_putYear_1 : decode cX6_putYear 1 = .ok (.getfield 26, 3) := by decide +kernel
theorem dX6_putYear_4 : decode cX6_putYear 4 = .ok (.iload_n 1, 1) := by decide +kernel
theorem dX6_putYear_5 : decode cX6_putYear 5 = .ok (.baload, 1) := by decide +kernel
theorem dX6_putYear_6 : decode cX6_putYear 6 = .ok (.ifCond .eq 16, 3) := by decide +kernel
theorem dX6_putYear_9 : decode cX6_putYear 9 = .ok (.aload_n 2, 1) := by decide +kernel
theorem dX6_putYear_10 : decode cX6_putYear 10 = .ok (.aload_n 0, 1) := by decide +kernel
theorem dX6_putYear_11 : decode cX6_putYear 11 = .ok (.iload_n 1, 1) := by decide +kernel
theorem dX6_putYear_12 : decode cX6_putYear 12 = .ok (.invokevirtual 109, 3) := by decide +kernel
theorem dX6_putYear_15 : decode cX6_putYear 15 = .ok (.i2l, 1) := by decide +kernel
theorem dX6_putYear_16 : decode cX6_putYear 16 = .ok (.lconst 1, 1) := by decide +kernel
theorem dX6_putYear_17 : decode cX6_putYear 17 = .ok (.invokevirtual 112, 3) := by decide +kernel
theorem dX6_putYear_20 : decode cX6_putYear 20 = .ok (.iconst 1, 1) := by decide +kernel
theorem dX6_putYear_21 : decode cX6_putYear 21 = .ok (.ireturn, 1) := by decide +kernel
theorem dX6_putYear_22 : decode cX6_putYear 22 = .ok (.aload_n 0, 1) := by decide +kernel
theorem dX6_putYear_23 : decode cX6_putYear 23 = .ok (.iload_n 1, 1) := by decide +kernel
theorem dX6_putYear_24 : decode cX6_putYear 24 = .ok (.iconst 0, 1) := by decide +kernel
theorem dX6_putYear_25 : decode cX6_putYear 25 = .ok (.invokevirtual 116, 3) := by decide +kernel
theorem dX6_putYear_28 : decode cX6_putYear 28 = .ok (.istore_n 3, 1) := by decide +kernel
theorem dX6_putYear_29 : decode cX6_putYear 29 = .ok (.iload_n 3, 1) := by decide +kernel
theorem dX6_putYear_30 : decode cX6_putYear 30 = .ok (.iconst (-1), 1) := by decide +kernel
theorem dX6_putYear_31 : decode cX6_putYear 31 = .ok (.if_icmp .ne 5, 3) := by decide +kernel
theorem dX6_putYear_34 : decode cX6_putYear 34 = .ok (.iconst 0, 1) := by decide +kernel
theorem dX6_putYear_35 : decode cX6_putYear 35 = .ok (.ireturn, 1) := by decide +kernel
theorem dX6_putYear_36 : decode cX6_putYear 36 = .ok (.aload_n 0, 1) := by decide +kernel
theorem dX6_putYear_37 : decode cX6_putYear 37 = .ok (.iload_n 3, 1) := by decide +kernel
theorem dX6_putYear_38 : decode cX6_putYear 38 = .ok (.aload_n 2, 1) := by decide +kernel
theorem dX6_putYear_39 : decode cX6_putYear 39 = .ok (.invokevirtual 119, 3) := by decide +kernel
theorem dX6_putYear_42 : decode cX6_putYear 42 = .ok (.iconst 1, 1) := by decide +kernel
theorem dX6_putYear_43 : decode cX6_putYear 43 = .ok (.ireturn, 1) := by decide +kernel
theorem dX6_putTrial_0 : decode cX6_putTrial 0 = .ok (.aload_n 0, 1) := by decide +kernel
theorem dX6_putTrial_1 : decode cX6_putTrial 1 = .ok (.getfield 26, 3) := by decide +kernel
theorem dX6_putTrial_4 : decode cX6_putTrial 4 = .ok (.iload_n 1, 1) := by decide +kernel
theorem dX6_putTrial_5 : decode cX6_putTrial 5 = .ok (.baload, 1) := by decide +kernel
theorem dX6_putTrial_6 : decode cX6_putTrial 6 = .ok (.ifCond .ne 5, 3) := by decide +kernel
theorem dX6_putTrial_9 : decode cX6_putTrial 9 = .ok (.iconst 0, 1) := by decide +kernel
theorem dX6_putTrial_10 : decode cX6_putTrial 10 = .ok (.ireturn, 1) := by decide +kernel
theorem dX6_putTrial_11 : decode cX6_putTrial 11 = .ok (.aload_n 0, 1) := by decide +kernel
theorem dX6_putTrial_12 : decode cX6_putTrial 12 = .ok (.iconst 4, 1) := by decide +kernel
theorem dX6_putTrial_13 : decode cX6_putTrial 13 = .ok (.aload_n 0, 1) := by decide +kernel
theorem dX6_putTrial_14 : decode cX6_putTrial 14 = .ok (.getfield 9, 3) := by decide +kernel
theorem dX6_putTrial_17 : decode cX6_putTrial 17 = .ok (.iload_n 1, 1) := by decide +kernel
theorem dX6_putTrial_18 : decode cX6_putTrial 18 = .ok (.invokevirtual 123, 3) := by decide +kernel
theorem dX6_putTrial_21 : decode cX6_putTrial 21 = .ok (.iload_n 1, 1) := by decide +kernel
theorem dX6_putTrial_22 : decode cX6_putTrial 22 = .ok (.invokevirtual 77, 3) := by decide +kernel
theorem dX6_putTrial_25 : decode cX6_putTrial 25 = .ok (.aload_n 0, 1) := by decide +kernel
theorem dX6_putTrial_26 : decode cX6_putTrial 26 = .ok (.iload_n 1, 1) := by decide +kernel
theorem dX6_putTrial_27 : decode cX6_putTrial 27 = .ok (.bipush 7, 2) := by decide +kernel
theorem dX6_putTrial_29 : decode cX6_putTrial 29 = .ok (.invokevirtual 95, 3) := by decide +kernel
theorem dX6_putTrial_32 : decode cX6_putTrial 32 = .ok (.aload_n 0, 1) := by decide +kernel
theorem dX6_putTrial_33 : decode cX6_putTrial 33 = .ok (.iconst 4, 1) := by decide +kernel
theorem dX6_putTrial_34 : decode cX6_putTrial 34 = .ok (.invokevirtual 99, 3) := by decide +kernel
theorem dX6_putTrial_37 : decode cX6_putTrial 37 = .ok (.aload_n 0, 1) := by decide +kernel
theorem dX6_putTrial_38 : decode cX6_putTrial 38 = .ok (.iconst 4, 1) := by decide +kernel
theorem dX6_putTrial_39 : decode cX6_putTrial 39 = .ok (.invokevirtual 103, 3) := by decide +kernel
theorem dX6_putTrial_42 : decode cX6_putTrial 42 = .ok (.ifCond .ne 5, 3) := by decide +kernel
theorem dX6_putTrial_45 : decode cX6_putTrial 45 = .ok (.iconst 0, 1) := by decide +kernel
theorem dX6_putTrial_46 : decode cX6_putTrial 46 = .ok (.ireturn, 1) := by decide +kernel
theorem dX6_putTrial_47 : decode cX6_putTrial 47 = .ok (.aload_n 0, 1) := by decide +kernel
theorem dX6_putTrial_48 : decode cX6_putTrial 48 = .ok (.iconst 4, 1) := by decide +kernel
theorem dX6_putTrial_49 : decode cX6_putTrial 49 = .ok (.aload_n 2, 1) := by decide +kernel
theorem dX6_putTrial_50 : decode cX6_putTrial 50 = .ok (.invokevirtual 119, 3) := by decide +kernel
theorem dX6_putTrial_53 : decode cX6_putTrial 53 = .ok (.iconst 1, 1) := by decide +kernel
theorem dX6_putTrial_54 : decode cX6_putTrial 54 = .ok (.ireturn, 1) := by decide +kernel
theorem dX6_findFlows_0 : decode cX6_findFlows 0 = .ok (.aload_n 0, 1) := by decide +kernel
theorem dX6_findFlows_1 : decode cX6_findFlows 1 = .ok (.getfield 61, 3) := by decide +kernel
theorem dX6_findFlows_4 : decode cX6_findFlows 4 = .ok (.ifCond .eq 4, 3) := by decide +kernel
theorem dX6_findFlows_7 : decode cX6_findFlows 7 = .ok (.return_, 1) := by decide +kernel
theorem dX6_findFlows_8 : decode cX6_findFlows 8 = .ok (.iconst 0, 1) := by decide +kernel
theorem dX6_findFlows_9 : decode cX6_findFlows 9 = .ok (.istore_n 1, 1) := by decide +kernel
theorem dX6_findFlows_10 : decode cX6_findFlows 10 = .ok (.iload_n 1, 1) := by decide +kernel
theorem dX6_findFlows_11 : decode cX6_findFlows 11 = .ok (.bipush 16, 2) := by decide +kernel
theorem dX6_findFlows_13 : decode cX6_findFlows 13 = .ok (.if_icmp .ge 103, 3) := by decide +kernel
theorem dX6_findFlows_16 : decode cX6_findFlows 16 = .ok (.aload_n 0, 1) := by decide +kernel
theorem dX6_findFlows_17 : decode cX6_findFlows 17 = .ok (.getfield 9, 3) := by decide +kernel
theorem dX6_findFlows_20 : decode cX6_findFlows 20 = .ok (.iload_n 1, 1) := by decide +kernel
theorem dX6_findFlows_21 : decode cX6_findFlows 21 = .ok (.invokevirtual 126, 3) := by decide +kernel
theorem dX6_findFlows_24 : decode cX6_findFlows 24 = .ok (.ifCond .eq 19, 3) := by decide +kernel
theorem dX6_findFlows_27 : decode cX6_findFlows 27 = .ok (.aload_n 0, 1) := by decide +kernel
theorem dX6_findFlows_28 : decode cX6_findFlows 28 = .ok (.iload_n 1, 1) := by decide +kernel
theorem dX6_findFlows_29 : decode cX6_findFlows 29 = .ok (.aload_n 0, 1) := by decide +kernel
theorem dX6_findFlows_30 : decode cX6_findFlows 30 = .ok (.getfield 57, 3) := by decide +kernel
theorem dX6_findFlows_33 : decode cX6_findFlows 33 = .ok (.invokevirtual 129, 3) := by decide +kernel
theorem dX6_findFlows_36 : decode cX6_findFlows 36 = .ok (.ifCond .eq 7, 3) := by decide +kernel
theorem dX6_findFlows_39 : decode cX6_findFlows 39 = .ok (.iconst 1, 1) := by decide +kernel
theorem dX6_findFlows_40 : decode cX6_findFlows 40 = .ok (.goto 4, 3) := by decide +kernel
theorem dX6_findFlows_43 : decode cX6_findFlows 43 = .ok (.iconst 0, 1) := by decide +kernel
theorem dX6_findFlows_44 : decode cX6_findFlows 44 = .ok (.istore_n 2, 1) := by decide +kernel
theorem dX6_findFlows_45 : decode cX6_findFlows 45 = .ok (.iload_n 2, 1) := by decide +kernel
theorem dX6_findFlows_46 : decode cX6_findFlows 46 = .ok (.ifCond .eq 13, 3) := by decide +kernel
theorem dX6_findFlows_49 : decode cX6_findFlows 49 = .ok (.aload_n 0, 1) := by decide +kernel
theorem dX6_findFlows_50 : decode cX6_findFlows 50 = .ok (.getfield 57, 3) := by decide +kernel
theorem dX6_findFlows_53 : decode cX6_findFlows 53 = .ok (.invokevirtual 133, 3) := by decide +kernel
theorem dX6_findFlows_56 : decode cX6_findFlows 56 = .ok (.goto 6, 3) := by decide +kernel
theorem dX6_findFlows_59 : decode cX6_findFlows 59 = .ok (.ldc2_w 137, 3) := by decide +kernel
theorem dX6_findFlows_62 : decode cX6_findFlows 62 = .ok (.lstore_n 3, 1) := by decide +kernel
theorem dX6_findFlows_63 : decode cX6_findFlows 63 = .ok (.aload_n 0, 1) := by decide +kernel
theorem dX6_findFlows_64 : decode cX6_findFlows 64 = .ok (.getfield 48, 3) := by decide +kernel
theorem dX6_findFlows_67 : decode cX6_findFlows 67 = .ok (.iload_n 1, 1) := by decide +kernel
theorem dX6_findFlows_68 : decode cX6_findFlows 68 = .ok (.lload_n 3, 1) := by decide +kernel
theorem dX6_findFlows_69 : decode cX6_findFlows 69 = .ok (.ldc2_w 139, 3) := by decide +kernel
theorem dX6_findFlows_72 : decode cX6_findFlows 72 = .ok (.lcmp, 1) := by decide +kernel
theorem dX6_findFlows_73 : decode cX6_findFlows 73 = .ok (.ifCond .gt 8, 3) := by decide +kernel
theorem dX6_findFlows_76 : decode cX6_findFlows 76 = .ok (.lload_n 3, 1) := by decide +kernel
theorem dX6_findFlows_77 : decode cX6_findFlows 77 = .ok (.l2i, 1) := by decide +kernel
theorem dX6_findFlows_78 : decode cX6_findFlows 78 = .ok (.goto 4, 3) := by decide +kernel
theorem dX6_findFlows_81 : decode cX6_findFlows 81 = .ok (.iconst (-1), 1) := by decide +kernel
theorem dX6_findFlows_82 : decode cX6_findFlows 82 = .ok (.iastore, 1) := by decide +kernel
theorem dX6_findFlows_83 : decode cX6_findFlows 83 = .ok (.aload_n 0, 1) := by decide +kernel
theorem dX6_findFlows_84 : decode cX6_findFlows 84 = .ok (.getfield 51, 3) := by decide +kernel
theorem dX6_findFlows_87 : decode cX6_findFlows 87 = .ok (.iload_n 1, 1) := by decide +kernel
theorem dX6_findFlows_88 : decode cX6_findFlows 88 = .ok (.aload_n 0, 1) := by decide +kernel
theorem dX6_findFlows_89 : decode cX6_findFlows 89 = .ok (.getfield 26, 3) := by decide +kernel
theorem dX6_findFlows_92 : decode cX6_findFlows 92 = .ok (.iload_n 1, 1) := by decide +kernel
theorem dX6_findFlows_93 : decode cX6_findFlows 93 = .ok (.baload, 1) := by decide +kernel
theorem dX6_findFlows_94 : decode cX6_findFlows 94 = .ok (.ifCond .eq 7, 3) := by decide +kernel
theorem dX6_findFlows_97 : decode cX6_findFlows 97 = .ok (.iconst 1, 1) := by decide +kernel
theorem dX6_findFlows_98 : decode cX6_findFlows 98 = .ok (.goto 11, 3) := by decide +kernel
theorem dX6_findFlows_101 : decode cX6_findFlows 101 = .ok (.bipush 15, 2) := by decide +kernel
theorem dX6_findFlows_103 : decode cX6_findFlows 103 = .ok (.aload_n 0, 1) := by decide +kernel
theorem dX6_findFlows_104 : decode cX6_findFlows 104 = .ok (.iload_n 1, 1) := by decide +kernel
theorem dX6_findFlows_105 : decode cX6_findFlows 105 = .ok (.invokevirtual 141, 3) := by decide +kernel
theorem dX6_findFlows_108 : decode cX6_findFlows 108 = .ok (.isub, 1) := by decide +kernel
theorem dX6_findFlows_109 : decode cX6_findFlows 109 = .ok (.iastore, 1) := by decide +kernel
theorem dX6_findFlows_110 : decode cX6_findFlows 110 = .ok (.iinc 1 1, 3) := by decide +kernel
theorem dX6_findFlows_113 : decode cX6_findFlows 113 = .ok (.goto (-103), 3) := by decide +kernel
theorem dX6_findFlows_116 : decode cX6_findFlows 116 = .ok (.aload_n 0, 1) := by decide +kernel
theorem dX6_findFlows_117 : decode cX6_findFlows 117 = .ok (.iconst 1, 1) := by decide +kernel
theorem dX6_findFlows_118 : decode cX6_findFlows 118 = .ok (.putfield 61, 3) := by decide +kernel
theorem dX6_findFlows_121 : decode cX6_findFlows 121 = .ok (.return_, 1) := by decide +kernel
theorem dX6_flowOf_0 : decode cX6_flowOf 0 = .ok (.aload_n 0, 1) := by decide +kernel
theorem dX6_flowOf_1 : decode cX6_flowOf 1 = .ok (.getfield 48, 3) := by decide +kernel
theorem dX6_flowOf_4 : decode cX6_flowOf 4 = .ok (.iload_n 1, 1) := by decide +kernel
theorem dX6_flowOf_5 : decode cX6_flowOf 5 = .ok (.iaload, 1) := by decide +kernel
theorem dX6_flowOf_6 : decode cX6_flowOf 6 = .ok (.ireturn, 1) := by decide +kernel
theorem dX6_doubtOf_0 : decode cX6_doubtOf 0 = .ok (.aload_n 0, 1) := by decide +kernel
theorem dX6_doubtOf_1 : decode cX6_doubtOf 1 = .ok (.getfield 51, 3) := by decide +kernel
theorem dX6_doubtOf_4 : decode cX6_doubtOf 4 = .ok (.iload_n 1, 1) := by decide +kernel
theorem dX6_doubtOf_5 : decode cX6_doubtOf 5 = .ok (.iaload, 1) := by decide +kernel
theorem dX6_doubtOf_6 : decode cX6_doubtOf 6 = .ok (.ireturn, 1) := by decide +kernel
theorem dX6_sampleLimit_0 : decode cX6_sampleLimit 0 = .ok (.aload_n 0, 1) := by decide +kernel
theorem dX6_sampleLimit_1 : decode cX6_sampleLimit 1 = .ok (.getfield 26, 3) := by decide +kernel
theorem dX6_sampleLimit_4 : decode cX6_sampleLimit 4 = .ok (.iload_n 1, 1) := by decide +kernel
theorem dX6_sampleLimit_5 : decode cX6_sampleLimit 5 = .ok (.baload, 1) := by decide +kernel
theorem dX6_sampleLimit_6 : decode cX6_sampleLimit 6 = .ok (.ifCond .eq 7, 3) := by decide +kernel
theorem dX6_sampleLimit_9 : decode cX6_sampleLimit 9 = .ok (.iconst 0, 1) := by decide +kernel
theorem dX6_sampleLimit_10 : decode cX6_sampleLimit 10 = .ok (.goto 5, 3) := by decide +kernel
theorem dX6_sampleLimit_13 : decode cX6_sampleLimit 13 = .ok (.bipush 14, 2) := by decide +kernel
theorem dX6_sampleLimit_15 : decode cX6_sampleLimit 15 = .ok (.ireturn, 1) := by decide +kernel
theorem dX6_isSeenAllTheYear_0 : decode cX6_isSeenAllTheYear 0 = .ok (.iconst 0, 1) := by decide +kernel
theorem dX6_isSeenAllTheYear_1 : decode cX6_isSeenAllTheYear 1 = .ok (.istore_n 2, 1) := by decide +kernel
theorem dX6_isSeenAllTheYear_2 : decode cX6_isSeenAllTheYear 2 = .ok (.iload_n 2, 1) := by decide +kernel
theorem dX6_isSeenAllTheYear_3 : decode cX6_isSeenAllTheYear 3 = .ok (.bipush 84, 2) := by decide +kernel
theorem dX6_isSeenAllTheYear_5 : decode cX6_isSeenAllTheYear 5 = .ok (.if_icmp .ge 31, 3) := by decide +kernel
theorem dX6_isSeenAllTheYear_8 : decode cX6_isSeenAllTheYear 8 = .ok (.aload_n 0, 1) := by decide +kernel
theorem dX6_isSeenAllTheYear_9 : decode cX6_isSeenAllTheYear 9 = .ok (.getfield 15, 3) := by decide +kernel
theorem dX6_isSeenAllTheYear_12 : decode cX6_isSeenAllTheYear 12 = .ok (.iload_n 1, 1) := by decide +kernel
theorem dX6_isSeenAllTheYear_13 : decode cX6_isSeenAllTheYear 13 = .ok (.bipush 84, 2) := by decide +kernel
theorem dX6_isSeenAllTheYear_15 : decode cX6_isSeenAllTheYear 15 = .ok (.imul, 1) := by decide +kernel
theorem dX6_isSeenAllTheYear_16 : decode cX6_isSeenAllTheYear 16 = .ok (.iload_n 2, 1) := by decide +kernel
theorem dX6_isSeenAllTheYear_17 : decode cX6_isSeenAllTheYear 17 = .ok (.iadd, 1) := by decide +kernel
theorem dX6_isSeenAllTheYear_18 : decode cX6_isSeenAllTheYear 18 = .ok (.aload_n 0, 1) := by decide +kernel
theorem dX6_isSeenAllTheYear_19 : decode cX6_isSeenAllTheYear 19 = .ok (.getfield 65, 3) := by decide +kernel
theorem dX6_isSeenAllTheYear_22 : decode cX6_isSeenAllTheYear 22 = .ok (.invokevirtual 144, 3) := by decide +kernel
theorem dX6_isSeenAllTheYear_25 : decode cX6_isSeenAllTheYear 25 = .ok (.ifCond .ge 5, 3) := by decide +kernel
theorem dX6_isSeenAllTheYear_28 : decode cX6_isSeenAllTheYear 28 = .ok (.iconst 0, 1) := by decide +kernel
theorem dX6_isSeenAllTheYear_29 : decode cX6_isSeenAllTheYear 29 = .ok (.ireturn, 1) := by decide +kernel
theorem dX6_isSeenAllTheYear_30 : decode cX6_isSeenAllTheYear 30 = .ok (.iinc 2 1, 3) := by decide +kernel
theorem dX6_isSeenAllTheYear_33 : decode cX6_isSeenAllTheYear 33 = .ok (.goto (-31), 3) := by decide +kernel
theorem dX6_isSeenAllTheYear_36 : decode cX6_isSeenAllTheYear 36 = .ok (.iconst 1, 1) := by decide +kernel
theorem dX6_isSeenAllTheYear_37 : decode cX6_isSeenAllTheYear 37 = .ok (.ireturn, 1) := by decide +kernel
theorem dX6_tallyGroup_0 : decode cX6_tallyGroup 0 = .ok (.aload_n 0, 1) := by decide +kernel
theorem dX6_tallyGroup_1 : decode cX6_tallyGroup 1 = .ok (.getfield 22, 3) := by decide +kernel
theorem dX6_tallyGroup_4 : decode cX6_tallyGroup 4 = .ok (.iload_n 1, 1) := by decide +kernel
theorem dX6_tallyGroup_5 : decode cX6_tallyGroup 5 = .ok (.invokevirtual 149, 3) := by decide +kernel
theorem dX6_tallyGroup_8 : decode cX6_tallyGroup 8 = .ok (.iconst 0, 1) := by decide +kernel
theorem dX6_tallyGroup_9 : decode cX6_tallyGroup 9 = .ok (.istore 4, 2) := by decide +kernel
theorem dX6_tallyGroup_11 : decode cX6_tallyGroup 11 = .ok (.iload 4, 2) := by decide +kernel
theorem dX6_tallyGroup_13 : decode cX6_tallyGroup 13 = .ok (.bipush 16, 2) := by decide +kernel
theorem dX6_tallyGroup_15 : decode cX6_tallyGroup 15 = .ok (.if_icmp .ge 56, 3) := by decide +kernel
theorem dX6_tallyGroup_18 : decode cX6_tallyGroup 18 = .ok (.iload 4, 2) := by decide +kernel
theorem dX6_tallyGroup_20 : decode cX6_tallyGroup 20 = .ok (.iload_n 3, 1) := by decide +kernel
theorem dX6_tallyGroup_21 : decode cX6_tallyGroup 21 = .ok (.if_icmp .eq 44, 3) := by decide +kernel
theorem dX6_tallyGroup_24 : decode cX6_tallyGroup 24 = .ok (.aload_n 0, 1) := by decide +kernel
theorem dX6_tallyGroup_25 : decode cX6_tallyGroup 25 = .ok (.getfield 26, 3) := by decide +kernel
theorem dX6_tallyGroup_28 : decode cX6_tallyGroup 28 = .ok (.iload 4, 2) := by decide +kernel
theorem dX6_tallyGroup_30 : decode cX6_tallyGroup 30 = .ok (.baload, 1) := by decide +kernel
theorem dX6_tallyGroup_31 : decode cX6_tallyGroup 31 = .ok (.ifCond .eq 34, 3) := by decide +kernel
theorem dX6_tallyGroup_34 : decode cX6_tallyGroup 34 = .ok (.aload_n 0, 1) := by decide +kernel
theorem dX6_tallyGroup_35 : decode cX6_tallyGroup 35 = .ok (.getfield 9, 3) := by decide +kernel
theorem dX6_tallyGroup_38 : decode cX6_tallyGroup 38 = .ok (.iload 4, 2) := by decide +kernel
theorem dX6_tallyGroup_40 : decode cX6_tallyGroup 40 = .ok (.invokevirtual 123, 3) := by decide +kernel
theorem dX6_tallyGroup_43 : decode cX6_tallyGroup 43 = .ok (.iload_n 2, 1) := by decide +kernel
theorem dX6_tallyGroup_44 : decode cX6_tallyGroup 44 = .ok (.if_icmp .ne 21, 3) := by decide +kernel
theorem dX6_tallyGroup_47 : decode cX6_tallyGroup 47 = .ok (.aload_n 0, 1) := by decide +kernel
theorem dX6_tallyGroup_48 : decode cX6_tallyGroup 48 = .ok (.getfield 22, 3) := by decide +kernel
theorem dX6_tallyGroup_51 : decode cX6_tallyGroup 51 = .ok (.iload_n 1, 1) := by decide +kernel
theorem dX6_tallyGroup_52 : decode cX6_tallyGroup 52 = .ok (.invokevirtual 152, 3) := by decide +kernel
theorem dX6_tallyGroup_55 : decode cX6_tallyGroup 55 = .ok (.ifCond .ne 10, 3) := by decide +kernel
theorem dX6_tallyGroup_58 : decode cX6_tallyGroup 58 = .ok (.aload_n 0, 1) := by decide +kernel
theorem dX6_tallyGroup_59 : decode cX6_tallyGroup 59 = .ok (.iload_n 1, 1) := by decide +kernel
theorem dX6_tallyGroup_60 : decode cX6_tallyGroup 60 = .ok (.iload 4, 2) := by decide +kernel
theorem dX6_tallyGroup_62 : decode cX6_tallyGroup 62 = .ok (.invokevirtual 155, 3) := by decide +kernel
theorem dX6_tallyGroup_65 : decode cX6_tallyGroup 65 = .ok (.iinc 4 1, 3) := by decide +kernel
theorem dX6_tallyGroup_68 : decode cX6_tallyGroup 68 = .ok (.goto (-57), 3) := by decide +kernel
theorem dX6_tallyGroup_71 : decode cX6_tallyGroup 71 = .ok (.return_, 1) := by decide +kernel
theorem dX6_tallyPost_0 : decode cX6_tallyPost 0 = .ok (.aload_n 0, 1) := by decide +kernel
theorem dX6_tallyPost_1 : decode cX6_tallyPost 1 = .ok (.getfield 22, 3) := by decide +kernel
theorem dX6_tallyPost_4 : decode cX6_tallyPost 4 = .ok (.iload_n 1, 1) := by decide +kernel
theorem dX6_tallyPost_5 : decode cX6_tallyPost 5 = .ok (.invokevirtual 158, 3) := by decide +kernel
theorem dX6_tallyPost_8 : decode cX6_tallyPost 8 = .ok (.iconst 0, 1) := by decide +kernel
theorem dX6_tallyPost_9 : decode cX6_tallyPost 9 = .ok (.istore_n 3, 1) := by decide +kernel
theorem dX6_tallyPost_10 : decode cX6_tallyPost 10 = .ok (.iload_n 3, 1) := by decide +kernel
theorem dX6_tallyPost_11 : decode cX6_tallyPost 11 = .ok (.bipush 84, 2) := by decide +kernel
theorem dX6_tallyPost_13 : decode cX6_tallyPost 13 = .ok (.if_icmp .ge 35, 3) := by decide +kernel
theorem dX6_tallyPost_16 : decode cX6_tallyPost 16 = .ok (.aload_n 0, 1) := by decide +kernel
theorem dX6_tallyPost_17 : decode cX6_tallyPost 17 = .ok (.getfield 22, 3) := by decide +kernel
theorem dX6_tallyPost_20 : decode cX6_tallyPost 20 = .ok (.iload_n 1, 1) := by decide +kernel
theorem dX6_tallyPost_21 : decode cX6_tallyPost 21 = .ok (.iload_n 3, 1) := by decide +kernel
theorem dX6_tallyPost_22 : decode cX6_tallyPost 22 = .ok (.aload_n 0, 1) := by decide +kernel
theorem dX6_tallyPost_23 : decode cX6_tallyPost 23 = .ok (.getfield 15, 3) := by decide +kernel
theorem dX6_tallyPost_26 : decode cX6_tallyPost 26 = .ok (.iload_n 2, 1) := by decide +kernel
theorem dX6_tallyPost_27 : decode cX6_tallyPost 27 = .ok (.bipush 84, 2) := by decide +kernel
theorem dX6_tallyPost_29 : decode cX6_tallyPost 29 = .ok (.imul, 1) := by decide +kernel
theorem dX6_tallyPost_30 : decode cX6_tallyPost 30 = .ok (.iload_n 3, 1) := by decide +kernel
theorem dX6_tallyPost_31 : decode cX6_tallyPost 31 = .ok (.iadd, 1) := by decide +kernel
theorem dX6_tallyPost_32 : decode cX6_tallyPost 32 = .ok (.aload_n 0, 1) := by decide +kernel
theorem dX6_tallyPost_33 : decode cX6_tallyPost 33 = .ok (.getfield 65, 3) := by decide +kernel
theorem dX6_tallyPost_36 : decode cX6_tallyPost 36 = .ok (.invokevirtual 144, 3) := by decide +kernel
theorem dX6_tallyPost_39 : decode cX6_tallyPost 39 = .ok (.invokevirtual 161, 3) := by decide +kernel
theorem dX6_tallyPost_42 : decode cX6_tallyPost 42 = .ok (.iinc 3 1, 3) := by decide +kernel
theorem dX6_tallyPost_45 : decode cX6_tallyPost 45 = .ok (.goto (-35), 3) := by decide +kernel
theorem dX6_tallyPost_48 : decode cX6_tallyPost 48 = .ok (.return_, 1) := by decide +kernel
theorem dX6_sumOfCounts_0 : decode cX6_sumOfCounts 0 = .ok (.iconst 0, 1) := by decide +kernel
theorem dX6_sumOfCounts_1 : decode cX6_sumOfCounts 1 = .ok (.istore_n 2, 1) := by decide +kernel
theorem dX6_sumOfCounts_2 : decode cX6_sumOfCounts 2 = .ok (.iconst 0, 1) := by decide +kernel
theorem dX6_sumOfCounts_3 : decode cX6_sumOfCounts 3 = .ok (.istore_n 3, 1) := by decide +kernel
theorem dX6_sumOfCounts_4 : decode cX6_sumOfCounts 4 = .ok (.iload_n 3, 1) := by decide +kernel
theorem dX6_sumOfCounts_5 : decode cX6_sumOfCounts 5 = .ok (.bipush 84, 2) := by decide +kernel
theorem dX6_sumOfCounts_7 : decode cX6_sumOfCounts 7 = .ok (.if_icmp .ge 29, 3) := by decide +kernel
theorem dX6_sumOfCounts_10 : decode cX6_sumOfCounts 10 = .ok (.iload_n 2, 1) := by decide +kernel
theorem dX6_sumOfCounts_11 : decode cX6_sumOfCounts 11 = .ok (.aload_n 0, 1) := by decide +kernel
theorem dX6_sumOfCounts_12 : decode cX6_sumOfCounts 12 = .ok (.getfield 15, 3) := by decide +kernel
theorem dX6_sumOfCounts_15 : decode cX6_sumOfCounts 15 = .ok (.iload_n 1, 1) := by decide +kernel
theorem dX6_sumOfCounts_16 : decode cX6_sumOfCounts 16 = .ok (.bipush 84, 2) := by decide +kernel
theorem dX6_sumOfCounts_18 : decode cX6_sumOfCounts 18 = .ok (.imul, 1) := by decide +kernel
theorem dX6_sumOfCounts_19 : decode cX6_sumOfCounts 19 = .ok (.iload_n 3, 1) := by decide +kernel
theorem dX6_sumOfCounts_20 : decode cX6_sumOfCounts 20 = .ok (.iadd, 1) := by decide +kernel
theorem dX6_sumOfCounts_21 : decode cX6_sumOfCounts 21 = .ok (.aload_n 0, 1) := by decide +kernel
theorem dX6_sumOfCounts_22 : decode cX6_sumOfCounts 22 = .ok (.getfield 65, 3) := by decide +kernel
theorem dX6_sumOfCounts_25 : decode cX6_sumOfCounts 25 = .ok (.invokevirtual 144, 3) := by decide +kernel
theorem dX6_sumOfCounts_28 : decode cX6_sumOfCounts 28 = .ok (.iadd, 1) := by decide +kernel
theorem dX6_sumOfCounts_29 : decode cX6_sumOfCounts 29 = .ok (.istore_n 2, 1) := by decide +kernel
theorem dX6_sumOfCounts_30 : decode cX6_sumOfCounts 30 = .ok (.iinc 3 1, 3) := by decide +kernel
theorem dX6_sumOfCounts_33 : decode cX6_sumOfCounts 33 = .ok (.goto (-29), 3) := by decide +kernel
theorem dX6_sumOfCounts_36 : decode cX6_sumOfCounts 36 = .ok (.iload_n 2, 1) := by decide +kernel
theorem dX6_sumOfCounts_37 : decode cX6_sumOfCounts 37 = .ok (.ireturn, 1) := by decide +kernel
theorem dX6_drawDays_0 : decode cX6_drawDays 0 = .ok (.aload_n 0, 1) := by decide +kernel
theorem dX6_drawDays_1 : decode cX6_drawDays 1 = .ok (.iconst 0, 1) := by decide +kernel
theorem dX6_drawDays_2 : decode cX6_drawDays 2 = .ok (.putfield 37, 3) := by decide +kernel
theorem dX6_drawDays_5 : decode cX6_drawDays 5 = .ok (.iconst 0, 1) := by decide +kernel
theorem dX6_drawDays_6 : decode cX6_drawDays 6 = .ok (.istore_n 3, 1) := by decide +kernel
theorem dX6_drawDays_7 : decode cX6_drawDays 7 = .ok (.iload_n 3, 1) := by decide +kernel
theorem dX6_drawDays_8 : decode cX6_drawDays 8 = .ok (.bipush 84, 2) := by decide +kernel
theorem dX6_drawDays_10 : decode cX6_drawDays 10 = .ok (.if_icmp .ge 72, 3) := by decide +kernel
theorem dX6_drawDays_13 : decode cX6_drawDays 13 = .ok (.aload_n 0, 1) := by decide +kernel
theorem dX6_drawDays_14 : decode cX6_drawDays 14 = .ok (.getfield 37, 3) := by decide +kernel
theorem dX6_drawDays_17 : decode cX6_drawDays 17 = .ok (.iload_n 2, 1) := by decide +kernel
theorem dX6_drawDays_18 : decode cX6_drawDays 18 = .ok (.if_icmp .ge 64, 3) := by decide +kernel
theorem dX6_drawDays_21 : decode cX6_drawDays 21 = .ok (.aload_n 0, 1) := by decide +kernel
theorem dX6_drawDays_22 : decode cX6_drawDays 22 = .ok (.getfield 15, 3) := by decide +kernel
theorem dX6_drawDays_25 : decode cX6_drawDays 25 = .ok (.iload_n 1, 1) := by decide +kernel
theorem dX6_drawDays_26 : decode cX6_drawDays 26 = .ok (.bipush 84, 2) := by decide +kernel
theorem dX6_drawDays_28 : decode cX6_drawDays 28 = .ok (.imul, 1) := by decide +kernel
theorem dX6_drawDays_29 : decode cX6_drawDays 29 = .ok (.iload_n 3, 1) := by decide +kernel
theorem dX6_drawDays_30 : decode cX6_drawDays 30 = .ok (.iadd, 1) := by decide +kernel
theorem dX6_drawDays_31 : decode cX6_drawDays 31 = .ok (.aload_n 0, 1) := by decide +kernel
theorem dX6_drawDays_32 : decode cX6_drawDays 32 = .ok (.getfield 65, 3) := by decide +kernel
theorem dX6_drawDays_35 : decode cX6_drawDays 35 = .ok (.invokevirtual 144, 3) := by decide +kernel
theorem dX6_drawDays_38 : decode cX6_drawDays 38 = .ok (.istore 4, 2) := by decide +kernel
theorem dX6_drawDays_40 : decode cX6_drawDays 40 = .ok (.iload 4, 2) := by decide +kernel
theorem dX6_drawDays_42 : decode cX6_drawDays 42 = .ok (.ifCond .lt 34, 3) := by decide +kernel
theorem dX6_drawDays_45 : decode cX6_drawDays 45 = .ok (.aload_n 0, 1) := by decide +kernel
theorem dX6_drawDays_46 : decode cX6_drawDays 46 = .ok (.getfield 30, 3) := by decide +kernel
theorem dX6_drawDays_49 : decode cX6_drawDays 49 = .ok (.aload_n 0, 1) := by decide +kernel
theorem dX6_drawDays_50 : decode cX6_drawDays 50 = .ok (.getfield 37, 3) := by decide +kernel
theorem dX6_drawDays_53 : decode cX6_drawDays 53 = .ok (.iload_n 3, 1) := by decide +kernel
theorem dX6_drawDays_54 : decode cX6_drawDays 54 = .ok (.iastore, 1) := by decide +kernel
theorem dX6_drawDays_55 : decode cX6_drawDays 55 = .ok (.aload_n 0, 1) := by decide +kernel
theorem dX6_drawDays_56 : decode cX6_drawDays 56 = .ok (.getfield 34, 3) := by decide +kernel
theorem dX6_drawDays_59 : decode cX6_drawDays 59 = .ok (.aload_n 0, 1) := by decide +kernel
theorem dX6_drawDays_60 : decode cX6_drawDays 60 = .ok (.getfield 37, 3) := by decide +kernel
theorem dX6_drawDays_63 : decode cX6_drawDays 63 = .ok (.iload 4, 2) := by decide +kernel
theorem dX6_drawDays_65 : decode cX6_drawDays 65 = .ok (.iastore, 1) := by decide +kernel
theorem dX6_drawDays_66 : decode cX6_drawDays 66 = .ok (.aload_n 0, 1) := by decide +kernel
theorem dX6_drawDays_67 : decode cX6_drawDays 67 = .ok (.dup, 1) := by decide +kernel
theorem dX6_drawDays_68 : decode cX6_drawDays 68 = .ok (.getfield 37, 3) := by decide +kernel
theorem dX6_drawDays_71 : decode cX6_drawDays 71 = .ok (.iconst 1, 1) := by decide +kernel
theorem dX6_drawDays_72 : decode cX6_drawDays 72 = .ok (.iadd, 1) := by decide +kernel
theorem dX6_drawDays_73 : decode cX6_drawDays 73 = .ok (.putfield 37, 3) := by decide +kernel
theorem dX6_drawDays_76 : decode cX6_drawDays 76 = .ok (.iinc 3 1, 3) := by decide +kernel
theorem dX6_drawDays_79 : decode cX6_drawDays 79 = .ok (.goto (-72), 3) := by decide +kernel
theorem dX6_drawDays_82 : decode cX6_drawDays 82 = .ok (.return_, 1) := by decide +kernel
theorem dX6_weighSample_0 : decode cX6_weighSample 0 = .ok (.aload_n 0, 1) := by decide +kernel
theorem dX6_weighSample_1 : decode cX6_weighSample 1 = .ok (.getfield 41, 3) := by decide +kernel
theorem dX6_weighSample_4 : decode cX6_weighSample 4 = .ok (.iload_n 1, 1) := by decide +kernel
theorem dX6_weighSample_5 : decode cX6_weighSample 5 = .ok (.lconst 0, 1) := by decide +kernel
theorem dX6_weighSample_6 : decode cX6_weighSample 6 = .ok (.lastore, 1) := by decide +kernel
theorem dX6_weighSample_7 : decode cX6_weighSample 7 = .ok (.aload_n 0, 1) := by decide +kernel
theorem dX6_weighSample_8 : decode cX6_weighSample 8 = .ok (.getfield 45, 3) := by decide +kernel
theorem dX6_weighSample_11 : decode cX6_weighSample 11 = .ok (.iload_n 1, 1) := by decide +kernel
theorem dX6_weighSample_12 : decode cX6_weighSample 12 = .ok (.lconst 0, 1) := by decide +kernel
theorem dX6_weighSample_13 : decode cX6_weighSample 13 = .ok (.lastore, 1) := by decide +kernel
theorem dX6_weighSample_14 : decode cX6_weighSample 14 = .ok (.aload_n 0, 1) := by decide +kernel
theorem dX6_weighSample_15 : decode cX6_weighSample 15 = .ok (.getfield 22, 3) := by decide +kernel
theorem dX6_weighSample_18 : decode cX6_weighSample 18 = .ok (.iload_n 1, 1) := by decide +kernel
theorem dX6_weighSample_19 : decode cX6_weighSample 19 = .ok (.invokevirtual 81, 3) := by decide +kernel
theorem dX6_weighSample_22 : decode cX6_weighSample 22 = .ok (.ifCond .eq 65, 3) := by decide +kernel
theorem dX6_weighSample_25 : decode cX6_weighSample 25 = .ok (.iconst 0, 1) := by decide +kernel
theorem dX6_weighSample_26 : decode cX6_weighSample 26 = .ok (.istore_n 2, 1) := by decide +kernel
theorem dX6_weighSample_27 : decode cX6_weighSample 27 = .ok (.iload_n 2, 1) := by decide +kernel
theorem dX6_weighSample_28 : decode cX6_weighSample 28 = .ok (.aload_n 0, 1) := by decide +kernel
theorem dX6_weighSample_29 : decode cX6_weighSample 29 = .ok (.getfield 37, 3) := by decide +kernel
theorem dX6_weighSample_32 : decode cX6_weighSample 32 = .ok (.if_icmp .ge 55, 3) := by decide +kernel
theorem dX6_weighSample_35 : decode cX6_weighSample 35 = .ok (.aload_n 0, 1) := by decide +kernel
theorem dX6_weighSample_36 : decode cX6_weighSample 36 = .ok (.getfield 22, 3) := by decide +kernel
theorem dX6_weighSample_39 : decode cX6_weighSample 39 = .ok (.iload_n 1, 1) := by decide +kernel
theorem dX6_weighSample_40 : decode cX6_weighSample 40 = .ok (.aload_n 0, 1) := by decide +kernel
theorem dX6_weighSample_41 : decode cX6_weighSample 41 = .ok (.getfield 30, 3) := by decide +kernel
theorem dX6_weighSample_44 : decode cX6_weighSample 44 = .ok (.iload_n 2, 1) := by decide +kernel
theorem dX6_weighSample_45 : decode cX6_weighSample 45 = .ok (.iaload, 1) := by decide +kernel
theorem dX6_weighSample_46 : decode cX6_weighSample 46 = .ok (.invokevirtual 88, 3) := by decide +kernel
theorem dX6_weighSample_49 : decode cX6_weighSample 49 = .ok (.i2l, 1) := by decide +kernel
theorem dX6_weighSample_50 : decode cX6_weighSample 50 = .ok (.lstore_n 3, 1) := by decide +kernel
theorem dX6_weighSample_51 : decode cX6_weighSample 51 = .ok (.aload_n 0, 1) := by decide +kernel
theorem dX6_weighSample_52 : decode cX6_weighSample 52 = .ok (.getfield 41, 3) := by decide +kernel
theorem dX6_weighSample_55 : decode cX6_weighSample 55 = .ok (.iload_n 1, 1) := by decide +kernel
theorem dX6_weighSample_56 : decode cX6_weighSample 56 = .ok (.dup2, 1) := by decide +kernel
theorem dX6_weighSample_57 : decode cX6_weighSample 57 = .ok (.laload, 1) := by decide +kernel
theorem dX6_weighSample_58 : decode cX6_weighSample 58 = .ok (.lload_n 3, 1) := by decide +kernel
theorem dX6_weighSample_59 : decode cX6_weighSample 59 = .ok (.aload_n 0, 1) := by decide +kernel
theorem dX6_weighSample_60 : decode cX6_weighSample 60 = .ok (.getfield 34, 3) := by decide +kernel
theorem dX6_weighSample_63 : decode cX6_weighSample 63 = .ok (.iload_n 2, 1) := by decide +kernel
theorem dX6_weighSample_64 : decode cX6_weighSample 64 = .ok (.iaload, 1) := by decide +kernel
theorem dX6_weighSample_65 : decode cX6_weighSample 65 = .ok (.i2l, 1) := by decide +kernel
theorem dX6_weighSample_66 : decode cX6_weighSample 66 = .ok (.lmul, 1) := by decide +kernel
theorem dX6_weighSample_67 : decode cX6_weighSample 67 = .ok (.ladd, 1) := by decide +kernel
theorem dX6_weighSample_68 : decode cX6_weighSample 68 = .ok (.lastore, 1) := by decide +kernel
theorem dX6_weighSample_69 : decode cX6_weighSample 69 = .ok (.aload_n 0, 1) := by decide +kernel
theorem dX6_weighSample_70 : decode cX6_weighSample 70 = .ok (.getfield 45, 3) := by decide +kernel
theorem dX6_weighSample_73 : decode cX6_weighSample 73 = .ok (.iload_n 1, 1) := by decide +kernel
theorem dX6_weighSample_74 : decode cX6_weighSample 74 = .ok (.dup2, 1) := by decide +kernel
theorem dX6_weighSample_75 : decode cX6_weighSample 75 = .ok (.laload, 1) := by decide +kernel
theorem dX6_weighSample_76 : decode cX6_weighSample 76 = .ok (.lload_n 3, 1) := by decide +kernel
theorem dX6_weighSample_77 : decode cX6_weighSample 77 = .ok (.lload_n 3, 1) := by decide +kernel
theorem dX6_weighSample_78 : decode cX6_weighSample 78 = .ok (.lmul, 1) := by decide +kernel
theorem dX6_weighSample_79 : decode cX6_weighSample 79 = .ok (.ladd, 1) := by decide +kernel
theorem dX6_weighSample_80 : decode cX6_weighSample 80 = .ok (.lastore, 1) := by decide +kernel
theorem dX6_weighSample_81 : decode cX6_weighSample 81 = .ok (.iinc 2 1, 3) := by decide +kernel
theorem dX6_weighSample_84 : decode cX6_weighSample 84 = .ok (.goto (-57), 3) := by decide +kernel
theorem dX6_weighSample_87 : decode cX6_weighSample 87 = .ok (.return_, 1) := by decide +kernel
theorem dX6_fits_0 : decode cX6_fits 0 = .ok (.aload_n 0, 1) := by decide +kernel
theorem dX6_fits_1 : decode cX6_fits 1 = .ok (.getfield 45, 3) := by decide +kernel
theorem dX6_fits_4 : decode cX6_fits 4 = .ok (.iload_n 1, 1) := by decide +kernel
theorem dX6_fits_5 : decode cX6_fits 5 = .ok (.laload, 1) := by decide +kernel
theorem dX6_fits_6 : decode cX6_fits 6 = .ok (.lconst 0, 1) := by decide +kernel
theorem dX6_fits_7 : decode cX6_fits 7 = .ok (.lcmp, 1) := by decide +kernel
theorem dX6_fits_8 : decode cX6_fits 8 = .ok (.ifCond .le 7, 3) := by decide +kernel
theorem dX6_fits_11 : decode cX6_fits 11 = .ok (.iconst 1, 1) := by decide +kernel
theorem dX6_fits_12 : decode cX6_fits 12 = .ok (.goto 4, 3) := by decide +kernel
theorem dX6_fits_15 : decode cX6_fits 15 = .ok (.iconst 0, 1) := by decide +kernel
theorem dX6_fits_16 : decode cX6_fits 16 = .ok (.ireturn, 1) := by decide +kernel
theorem dX6_fitsAhead_0 : decode cX6_fitsAhead 0 = .ok (.iconst 0, 1) := by decide +kernel
theorem dX6_fitsAhead_1 : decode cX6_fitsAhead 1 = .ok (.istore_n 2, 1) := by decide +kernel
theorem dX6_fitsAhead_2 : decode cX6_fitsAhead 2 = .ok (.iconst 0, 1) := by decide +kernel
theorem dX6_fitsAhead_3 : decode cX6_fitsAhead 3 = .ok (.istore_n 3, 1) := by decide +kernel
theorem dX6_fitsAhead_4 : decode cX6_fitsAhead 4 = .ok (.iload_n 3, 1) := by decide +kernel
theorem dX6_fitsAhead_5 : decode cX6_fitsAhead 5 = .ok (.iconst 4, 1) := by decide +kernel
theorem dX6_fitsAhead_6 : decode cX6_fitsAhead 6 = .ok (.if_icmp .ge 83, 3) := by decide +kernel
theorem dX6_fitsAhead_9 : decode cX6_fitsAhead 9 = .ok (.iload_n 3, 1) := by decide +kernel
theorem dX6_fitsAhead_10 : decode cX6_fitsAhead 10 = .ok (.iload_n 1, 1) := by decide +kernel
theorem dX6_fitsAhead_11 : decode cX6_fitsAhead 11 = .ok (.if_icmp .eq 72, 3) := by decide +kernel
theorem dX6_fitsAhead_14 : decode cX6_fitsAhead 14 = .ok (.aload_n 0, 1) := by decide +kernel
theorem dX6_fitsAhead_15 : decode cX6_fitsAhead 15 = .ok (.iload_n 3, 1) := by decide +kernel
theorem dX6_fitsAhead_16 : decode cX6_fitsAhead 16 = .ok (.invokevirtual 103, 3) := by decide +kernel
theorem dX6_fitsAhead_19 : decode cX6_fitsAhead 19 = .ok (.ifCond .eq 64, 3) := by decide +kernel
theorem dX6_fitsAhead_22 : decode cX6_fitsAhead 22 = .ok (.aload_n 0, 1) := by decide +kernel
theorem dX6_fitsAhead_23 : decode cX6_fitsAhead 23 = .ok (.getfield 41, 3) := by decide +kernel
theorem dX6_fitsAhead_26 : decode cX6_fitsAhead 26 = .ok (.iload_n 3, 1) := by decide +kernel
theorem dX6_fitsAhead_27 : decode cX6_fitsAhead 27 = .ok (.laload, 1) := by decide +kernel
theorem dX6_fitsAhead_28 : decode cX6_fitsAhead 28 = .ok (.aload_n 0, 1) := by decide +kernel
theorem dX6_fitsAhead_29 : decode cX6_fitsAhead 29 = .ok (.getfield 41, 3) := by decide +kernel
theorem dX6_fitsAhead_32 : decode cX6_fitsAhead 32 = .ok (.iload_n 3, 1) := by decide +kernel
theorem dX6_fitsAhead_33 : decode cX6_fitsAhead 33 = .ok (.laload, 1) := by decide +kernel
theorem dX6_fitsAhead_34 : decode cX6_fitsAhead 34 = .ok (.lmul, 1) := by decide +kernel
theorem dX6_fitsAhead_35 : decode cX6_fitsAhead 35 = .ok (.aload_n 0, 1) := by decide +kernel
theorem dX6_fitsAhead_36 : decode cX6_fitsAhead 36 = .ok (.getfield 45, 3) := by decide +kernel
theorem dX6_fitsAhead_39 : decode cX6_fitsAhead 39 = .ok (.iload_n 3, 1) := by decide +kernel
theorem dX6_fitsAhead_40 : decode cX6_fitsAhead 40 = .ok (.laload, 1) := by decide +kernel
theorem dX6_fitsAhead_41 : decode cX6_fitsAhead 41 = .ok (.aload_n 0, 1) := by decide +kernel
theorem dX6_fitsAhead_42 : decode cX6_fitsAhead 42 = .ok (.getfield 41, 3) := by decide +kernel
theorem dX6_fitsAhead_45 : decode cX6_fitsAhead 45 = .ok (.iload_n 1, 1) := by decide +kernel
theorem dX6_fitsAhead_46 : decode cX6_fitsAhead 46 = .ok (.laload, 1) := by decide +kernel
theorem dX6_fitsAhead_47 : decode cX6_fitsAhead 47 = .ok (.aload_n 0, 1) := by decide +kernel
theorem dX6_fitsAhead_48 : decode cX6_fitsAhead 48 = .ok (.getfield 41, 3) := by decide +kernel
theorem dX6_fitsAhead_51 : decode cX6_fitsAhead 51 = .ok (.iload_n 1, 1) := by decide +kernel
theorem dX6_fitsAhead_52 : decode cX6_fitsAhead 52 = .ok (.laload, 1) := by decide +kernel
theorem dX6_fitsAhead_53 : decode cX6_fitsAhead 53 = .ok (.lmul, 1) := by decide +kernel
theorem dX6_fitsAhead_54 : decode cX6_fitsAhead 54 = .ok (.aload_n 0, 1) := by decide +kernel
theorem dX6_fitsAhead_55 : decode cX6_fitsAhead 55 = .ok (.getfield 45, 3) := by decide +kernel
theorem dX6_fitsAhead_58 : decode cX6_fitsAhead 58 = .ok (.iload_n 1, 1) := by decide +kernel
theorem dX6_fitsAhead_59 : decode cX6_fitsAhead 59 = .ok (.laload, 1) := by decide +kernel
theorem dX6_fitsAhead_60 : decode cX6_fitsAhead 60 = .ok (.invokestatic 164, 3) := by decide +kernel
theorem dX6_fitsAhead_63 : decode cX6_fitsAhead 63 = .ok (.istore 4, 2) := by decide +kernel
theorem dX6_fitsAhead_65 : decode cX6_fitsAhead 65 = .ok (.iload 4, 2) := by decide +kernel
theorem dX6_fitsAhead_67 : decode cX6_fitsAhead 67 = .ok (.ifCond .gt 13, 3) := by decide +kernel
theorem dX6_fitsAhead_70 : decode cX6_fitsAhead 70 = .ok (.iload 4, 2) := by decide +kernel
theorem dX6_fitsAhead_72 : decode cX6_fitsAhead 72 = .ok (.ifCond .ne 11, 3) := by decide +kernel
theorem dX6_fitsAhead_75 : decode cX6_fitsAhead 75 = .ok (.iload_n 3, 1) := by decide +kernel
theorem dX6_fitsAhead_76 : decode cX6_fitsAhead 76 = .ok (.iload_n 1, 1) := by decide +kernel
theorem dX6_fitsAhead_77 : decode cX6_fitsAhead 77 = .ok (.if_icmp .ge 6, 3) := by decide +kernel
theorem dX6_fitsAhead_80 : decode cX6_fitsAhead 80 = .ok (.iinc 2 1, 3) := by decide +kernel
theorem dX6_fitsAhead_83 : decode cX6_fitsAhead 83 = .ok (.iinc 3 1, 3) := by decide +kernel
theorem dX6_fitsAhead_86 : decode cX6_fitsAhead 86 = .ok (.goto (-82), 3) := by decide +kernel
theorem dX6_fitsAhead_89 : decode cX6_fitsAhead 89 = .ok (.iload_n 2, 1) := by decide +kernel
theorem dX6_fitsAhead_90 : decode cX6_fitsAhead 90 = .ok (.ireturn, 1) := by decide +kernel
theorem dX6_putLedYear_0 : decode cX6_putLedYear 0 = .ok (.aload_n 2, 1) := by decide +kernel
theorem dX6_putLedYear_1 : decode cX6_putLedYear 1 = .ok (.aload_n 0, 1) := by decide +kernel
theorem dX6_putLedYear_2 : decode cX6_putLedYear 2 = .ok (.getfield 41, 3) := by decide +kernel
theorem dX6_putLedYear_5 : decode cX6_putLedYear 5 = .ok (.iload_n 1, 1) := by decide +kernel
theorem dX6_putLedYear_6 : decode cX6_putLedYear 6 = .ok (.laload, 1) := by decide +kernel
theorem dX6_putLedYear_7 : decode cX6_putLedYear 7 = .ok (.aload_n 0, 1) := by decide +kernel
theorem dX6_putLedYear_8 : decode cX6_putLedYear 8 = .ok (.getfield 22, 3) := by decide +kernel
theorem dX6_putLedYear_11 : decode cX6_putLedYear 11 = .ok (.iload_n 1, 1) := by decide +kernel
theorem dX6_putLedYear_12 : decode cX6_putLedYear 12 = .ok (.invokevirtual 168, 3) := by decide +kernel
theorem dX6_putLedYear_15 : decode cX6_putLedYear 15 = .ok (.lmul, 1) := by decide +kernel
theorem dX6_putLedYear_16 : decode cX6_putLedYear 16 = .ok (.aload_n 0, 1) := by decide +kernel
theorem dX6_putLedYear_17 : decode cX6_putLedYear 17 = .ok (.getfield 45, 3) := by decide +kernel
theorem dX6_putLedYear_20 : decode cX6_putLedYear 20 = .ok (.iload_n 1, 1) := by decide +kernel
theorem dX6_putLedYear_21 : decode cX6_putLedYear 21 = .ok (.laload, 1) := by decide +kernel
theorem dX6_putLedYear_22 : decode cX6_putLedYear 22 = .ok (.invokevirtual 112, 3) := by decide +kernel
theorem dX6_putLedYear_25 : decode cX6_putLedYear 25 = .ok (.return_, 1) := by decide +kernel
