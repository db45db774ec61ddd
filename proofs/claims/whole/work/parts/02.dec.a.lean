theorem d_B_init_0 : decode b_B_init 0 = .ok (.aload_n 0, 1) := by decide +kernel
theorem d_B_init_1 : decode b_B_init 1 = .ok (.invokespecial 1, 3) := by decide +kernel
theorem d_B_init_4 : decode b_B_init 4 = .ok (.aload_n 0, 1) := by decide +kernel
theorem d_B_init_5 : decode b_B_init 5 = .ok (.iload_n 1, 1) := by decide +kernel
theorem d_B_init_6 : decode b_B_init 6 = .ok (.putfield 7, 3) := by decide +kernel
theorem d_B_init_9 : decode b_B_init 9 = .ok (.aload_n 0, 1) := by decide +kernel
theorem d_B_init_10 : decode b_B_init 10 = .ok (.iload_n 1, 1) := by decide +kernel
theorem d_B_init_11 : decode b_B_init 11 = .ok (.iconst 1, 1) := by decide +kernel
theorem d_B_init_12 : decode b_B_init 12 = .ok (.iadd, 1) := by decide +kernel
theorem d_B_init_13 : decode b_B_init 13 = .ok (.newarray .long, 2) := by decide +kernel
theorem d_B_init_15 : decode b_B_init 15 = .ok (.putfield 13, 3) := by decide +kernel
theorem d_B_init_18 : decode b_B_init 18 = .ok (.aload_n 0, 1) := by decide +kernel
theorem d_B_init_19 : decode b_B_init 19 = .ok (.iload_n 1, 1) := by decide +kernel
theorem d_B_init_20 : decode b_B_init 20 = .ok (.iconst 1, 1) := by decide +kernel
theorem d_B_init_21 : decode b_B_init 21 = .ok (.iadd, 1) := by decide +kernel
theorem d_B_init_22 : decode b_B_init 22 = .ok (.newarray .long, 2) := by decide +kernel
theorem d_B_init_24 : decode b_B_init 24 = .ok (.putfield 17, 3) := by decide +kernel
theorem d_B_init_27 : decode b_B_init 27 = .ok (.aload_n 0, 1) := by decide +kernel
theorem d_B_init_28 : decode b_B_init 28 = .ok (.iload_n 1, 1) := by decide +kernel
theorem d_B_init_29 : decode b_B_init 29 = .ok (.iconst 1, 1) := by decide +kernel
theorem d_B_init_30 : decode b_B_init 30 = .ok (.iadd, 1) := by decide +kernel
theorem d_B_init_31 : decode b_B_init 31 = .ok (.newarray .int, 2) := by decide +kernel
theorem d_B_init_33 : decode b_B_init 33 = .ok (.putfield 20, 3) := by decide +kernel
theorem d_B_init_36 : decode b_B_init 36 = .ok (.return_, 1) := by decide +kernel
theorem d_B_openNext_0 : decode b_B_openNext 0 = .ok (.aload_n 0, 1) := by decide +kernel
theorem d_B_openNext_1 : decode b_B_openNext 1 = .ok (.aload_n 0, 1) := by decide +kernel
theorem d_B_openNext_2 : decode b_B_openNext 2 = .ok (.getfield 24, 3) := by decide +kernel
theorem d_B_openNext_5 : decode b_B_openNext 5 = .ok (.aload_n 0, 1) := by decide +kernel
theorem d_B_openNext_6 : decode b_B_openNext 6 = .ok (.getfield 7, 3) := by decide +kernel
theorem d_B_openNext_9 : decode b_B_openNext 9 = .ok (.if_icmp .ge 12, 3) := by decide +kernel
theorem d_B_openNext_12 : decode b_B_openNext 12 = .ok (.aload_n 0, 1) := by decide +kernel
theorem d_B_openNext_13 : decode b_B_openNext 13 = .ok (.getfield 24, 3) := by decide +kernel
theorem d_B_openNext_16 : decode b_B_openNext 16 = .ok (.iconst 1, 1) := by decide +kernel
theorem d_B_openNext_17 : decode b_B_openNext 17 = .ok (.iadd, 1) := by decide +kernel
theorem d_B_openNext_18 : decode b_B_openNext 18 = .ok (.goto 4, 3) := by decide +kernel
theorem d_B_openNext_21 : decode b_B_openNext 21 = .ok (.iconst 0, 1) := by decide +kernel
theorem d_B_openNext_22 : decode b_B_openNext 22 = .ok (.putfield 24, 3) := by decide +kernel
theorem d_B_openNext_25 : decode b_B_openNext 25 = .ok (.aload_n 0, 1) := by decide +kernel
theorem d_B_openNext_26 : decode b_B_openNext 26 = .ok (.getfield 13, 3) := by decide +kernel
theorem d_B_openNext_29 : decode b_B_openNext 29 = .ok (.aload_n 0, 1) := by decide +kernel
theorem d_B_openNext_30 : decode b_B_openNext 30 = .ok (.getfield 24, 3) := by decide +kernel
theorem d_B_openNext_33 : decode b_B_openNext 33 = .ok (.lload_n 1, 1) := by decide +kernel
theorem d_B_openNext_34 : decode b_B_openNext 34 = .ok (.lastore, 1) := by decide +kernel
theorem d_B_openNext_35 : decode b_B_openNext 35 = .ok (.aload_n 0, 1) := by decide +kernel
theorem d_B_openNext_36 : decode b_B_openNext 36 = .ok (.getfield 17, 3) := by decide +kernel
theorem d_B_openNext_39 : decode b_B_openNext 39 = .ok (.aload_n 0, 1) := by decide +kernel
theorem d_B_openNext_40 : decode b_B_openNext 40 = .ok (.getfield 24, 3) := by decide +kernel
theorem d_B_openNext_43 : decode b_B_openNext 43 = .ok (.lload_n 3, 1) := by decide +kernel
theorem d_B_openNext_44 : decode b_B_openNext 44 = .ok (.lastore, 1) := by decide +kernel
theorem d_B_openNext_45 : decode b_B_openNext 45 = .ok (.aload_n 0, 1) := by decide +kernel
theorem d_B_openNext_46 : decode b_B_openNext 46 = .ok (.getfield 20, 3) := by decide +kernel
theorem d_B_openNext_49 : decode b_B_openNext 49 = .ok (.aload_n 0, 1) := by decide +kernel
theorem d_B_openNext_50 : decode b_B_openNext 50 = .ok (.getfield 24, 3) := by decide +kernel
theorem d_B_openNext_53 : decode b_B_openNext 53 = .ok (.iload 5, 2) := by decide +kernel
theorem d_B_openNext_55 : decode b_B_openNext 55 = .ok (.iastore, 1) := by decide +kernel
theorem d_B_openNext_56 : decode b_B_openNext 56 = .ok (.aload_n 0, 1) := by decide +kernel
theorem d_B_openNext_57 : decode b_B_openNext 57 = .ok (.dup, 1) := by decide +kernel
theorem d_B_openNext_58 : decode b_B_openNext 58 = .ok (.getfield 27, 3) := by decide +kernel
theorem d_B_openNext_61 : decode b_B_openNext 61 = .ok (.iconst 1, 1) := by decide +kernel
theorem d_B_openNext_62 : decode b_B_openNext 62 = .ok (.iadd, 1) := by decide +kernel
theorem d_B_openNext_63 : decode b_B_openNext 63 = .ok (.putfield 27, 3) := by decide +kernel
theorem d_B_openNext_66 : decode b_B_openNext 66 = .ok (.aload_n 0, 1) := by decide +kernel
theorem d_B_openNext_67 : decode b_B_openNext 67 = .ok (.aload_n 0, 1) := by decide +kernel
theorem d_B_openNext_68 : decode b_B_openNext 68 = .ok (.getfield 7, 3) := by decide +kernel
theorem d_B_openNext_71 : decode b_B_openNext 71 = .ok (.aload_n 0, 1) := by decide +kernel
theorem d_B_openNext_72 : decode b_B_openNext 72 = .ok (.getfield 30, 3) := by decide +kernel
theorem d_B_openNext_75 : decode b_B_openNext 75 = .ok (.iconst 1, 1) := by decide +kernel
theorem d_B_openNext_76 : decode b_B_openNext 76 = .ok (.iadd, 1) := by decide +kernel
theorem d_B_openNext_77 : decode b_B_openNext 77 = .ok (.invokestatic 33, 3) := by decide +kernel
theorem d_B_openNext_80 : decode b_B_openNext 80 = .ok (.putfield 30, 3) := by decide +kernel
theorem d_B_openNext_83 : decode b_B_openNext 83 = .ok (.return_, 1) := by decide +kernel
theorem d_B_goBack_0 : decode b_B_goBack 0 = .ok (.iload_n 1, 1) := by decide +kernel
theorem d_B_goBack_1 : decode b_B_goBack 1 = .ok (.ifCond .lt 11, 3) := by decide +kernel
theorem d_B_goBack_4 : decode b_B_goBack 4 = .ok (.iload_n 1, 1) := by decide +kernel
theorem d_B_goBack_5 : decode b_B_goBack 5 = .ok (.aload_n 0, 1) := by decide +kernel
theorem d_B_goBack_6 : decode b_B_goBack 6 = .ok (.getfield 30, 3) := by decide +kernel
theorem d_B_goBack_9 : decode b_B_goBack 9 = .ok (.if_icmp .le 4, 3) := by decide +kernel
theorem d_B_goBack_12 : decode b_B_goBack 12 = .ok (.return_, 1) := by decide +kernel
theorem d_B_goBack_13 : decode b_B_goBack 13 = .ok (.aload_n 0, 1) := by decide +kernel
theorem d_B_goBack_14 : decode b_B_goBack 14 = .ok (.aload_n 0, 1) := by decide +kernel
theorem d_B_goBack_15 : decode b_B_goBack 15 = .ok (.getfield 24, 3) := by decide +kernel
theorem d_B_goBack_18 : decode b_B_goBack 18 = .ok (.iload_n 1, 1) := by decide +kernel
theorem d_B_goBack_19 : decode b_B_goBack 19 = .ok (.if_icmp .lt 12, 3) := by decide +kernel
theorem d_B_goBack_22 : decode b_B_goBack 22 = .ok (.aload_n 0, 1) := by decide +kernel
theorem d_B_goBack_23 : decode b_B_goBack 23 = .ok (.getfield 24, 3) := by decide +kernel
theorem d_B_goBack_26 : decode b_B_goBack 26 = .ok (.iload_n 1, 1) := by decide +kernel
theorem d_B_goBack_27 : decode b_B_goBack 27 = .ok (.isub, 1) := by decide +kernel
theorem d_B_goBack_28 : decode b_B_goBack 28 = .ok (.goto 16, 3) := by decide +kernel
theorem d_B_goBack_31 : decode b_B_goBack 31 = .ok (.aload_n 0, 1) := by decide +kernel
theorem d_B_goBack_32 : decode b_B_goBack 32 = .ok (.getfield 24, 3) := by decide +kernel
theorem d_B_goBack_35 : decode b_B_goBack 35 = .ok (.iload_n 1, 1) := by decide +kernel
theorem d_B_goBack_36 : decode b_B_goBack 36 = .ok (.isub, 1) := by decide +kernel
theorem d_B_goBack_37 : decode b_B_goBack 37 = .ok (.aload_n 0, 1) := by decide +kernel
theorem d_B_goBack_38 : decode b_B_goBack 38 = .ok (.getfield 7, 3) := by decide +kernel
theorem d_B_goBack_41 : decode b_B_goBack 41 = .ok (.iadd, 1) := by decide +kernel
theorem d_B_goBack_42 : decode b_B_goBack 42 = .ok (.iconst 1, 1) := by decide +kernel
theorem d_B_goBack_43 : decode b_B_goBack 43 = .ok (.iadd, 1) := by decide +kernel
theorem d_B_goBack_44 : decode b_B_goBack 44 = .ok (.putfield 24, 3) := by decide +kernel
theorem d_B_goBack_47 : decode b_B_goBack 47 = .ok (.aload_n 0, 1) := by decide +kernel
theorem d_B_goBack_48 : decode b_B_goBack 48 = .ok (.dup, 1) := by decide +kernel
theorem d_B_goBack_49 : decode b_B_goBack 49 = .ok (.getfield 27, 3) := by decide +kernel
theorem d_B_goBack_52 : decode b_B_goBack 52 = .ok (.iload_n 1, 1) := by decide +kernel
theorem d_B_goBack_53 : decode b_B_goBack 53 = .ok (.isub, 1) := by decide +kernel
theorem d_B_goBack_54 : decode b_B_goBack 54 = .ok (.putfield 27, 3) := by decide +kernel
theorem d_B_goBack_57 : decode b_B_goBack 57 = .ok (.aload_n 0, 1) := by decide +kernel
theorem d_B_goBack_58 : decode b_B_goBack 58 = .ok (.dup, 1) := by decide +kernel
theorem d_B_goBack_59 : decode b_B_goBack 59 = .ok (.getfield 30, 3) := by decide +kernel
theorem d_B_goBack_62 : decode b_B_goBack 62 = .ok (.iload_n 1, 1) := by decide +kernel
theorem d_B_goBack_63 : decode b_B_goBack 63 = .ok (.isub, 1) := by decide +kernel
theorem d_B_goBack_64 : decode b_B_goBack 64 = .ok (.putfield 30, 3) := by decide +kernel
theorem d_B_goBack_67 : decode b_B_goBack 67 = .ok (.return_, 1) := by decide +kernel
theorem d_B_supplyAtOpening_0 : decode b_B_supplyAtOpening 0 = .ok (.aload_n 0, 1) := by decide +kernel
theorem d_B_supplyAtOpening_1 : decode b_B_supplyAtOpening 1 = .ok (.getfield 13, 3) := by decide +kernel
theorem d_B_supplyAtOpening_4 : decode b_B_supplyAtOpening 4 = .ok (.aload_n 0, 1) := by decide +kernel
theorem d_B_supplyAtOpening_5 : decode b_B_supplyAtOpening 5 = .ok (.getfield 24, 3) := by decide +kernel
theorem d_B_supplyAtOpening_8 : decode b_B_supplyAtOpening 8 = .ok (.laload, 1) := by decide +kernel
theorem d_B_supplyAtOpening_9 : decode b_B_supplyAtOpening 9 = .ok (.lreturn, 1) := by decide +kernel
theorem d_B_potAtOpening_0 : decode b_B_potAtOpening 0 = .ok (.aload_n 0, 1) := by decide +kernel
theorem d_B_potAtOpening_1 : decode b_B_potAtOpening 1 = .ok (.getfield 17, 3) := by decide +kernel
theorem d_B_potAtOpening_4 : decode b_B_potAtOpening 4 = .ok (.aload_n 0, 1) := by decide +kernel
theorem d_B_potAtOpening_5 : decode b_B_potAtOpening 5 = .ok (.getfield 24, 3) := by decide +kernel
theorem d_B_potAtOpening_8 : decode b_B_potAtOpening 8 = .ok (.laload, 1) := by decide +kernel
theorem d_B_potAtOpening_9 : decode b_B_potAtOpening 9 = .ok (.lreturn, 1) := by decide +kernel
theorem d_B_appliedAtOpening_0 : decode b_B_appliedAtOpening 0 = .ok (.aload_n 0, 1) := by decide +kernel
theorem d_B_appliedAtOpening_1 : decode b_B_appliedAtOpening 1 = .ok (.getfield 20, 3) := by decide +kernel
theorem d_B_appliedAtOpening_4 : decode b_B_appliedAtOpening 4 = .ok (.aload_n 0, 1) := by decide +kernel
theorem d_B_appliedAtOpening_5 : decode b_B_appliedAtOpening 5 = .ok (.getfield 24, 3) := by decide +kernel
theorem d_B_appliedAtOpening_8 : decode b_B_appliedAtOpening 8 = .ok (.iaload, 1) := by decide +kernel
theorem d_B_appliedAtOpening_9 : decode b_B_appliedAtOpening 9 = .ok (.ireturn, 1) := by decide +kernel
theorem d_D_init_0 : decode b_D_init 0 = .ok (.aload_n 0, 1) := by decide +kernel
theorem d_D_init_1 : decode b_D_init 1 = .ok (.invokespecial 3, 3) := by decide +kernel
theorem d_D_init_4 : decode b_D_init 4 = .ok (.aload_n 0, 1) := by decide +kernel
theorem d_D_init_5 : decode b_D_init 5 = .ok (.bipush 16, 2) := by decide +kernel
theorem d_D_init_7 : decode b_D_init 7 = .ok (.newarray .int, 2) := by decide +kernel
theorem d_D_init_9 : decode b_D_init 9 = .ok (.putfield 9, 3) := by decide +kernel
theorem d_D_init_12 : decode b_D_init 12 = .ok (.aload_n 0, 1) := by decide +kernel
theorem d_D_init_13 : decode b_D_init 13 = .ok (.bipush 16, 2) := by decide +kernel
theorem d_D_init_15 : decode b_D_init 15 = .ok (.newarray .int, 2) := by decide +kernel
theorem d_D_init_17 : decode b_D_init 17 = .ok (.putfield 15, 3) := by decide +kernel
theorem d_D_init_20 : decode b_D_init 20 = .ok (.aload_n 0, 1) := by decide +kernel
theorem d_D_init_21 : decode b_D_init 21 = .ok (.bipush 16, 2) := by decide +kernel
theorem d_D_init_23 : decode b_D_init 23 = .ok (.newarray .long, 2) := by decide +kernel
theorem d_D_init_25 : decode b_D_init 25 = .ok (.putfield 18, 3) := by decide +kernel
theorem d_D_init_28 : decode b_D_init 28 = .ok (.aload_n 0, 1) := by decide +kernel
theorem d_D_init_29 : decode b_D_init 29 = .ok (.bipush 16, 2) := by decide +kernel
theorem d_D_init_31 : decode b_D_init 31 = .ok (.newarray .long, 2) := by decide +kernel
theorem d_D_init_33 : decode b_D_init 33 = .ok (.putfield 22, 3) := by decide +kernel
theorem d_D_init_36 : decode b_D_init 36 = .ok (.return_, 1) := by decide +kernel
theorem d_D_roomToSpend_0 : decode b_D_roomToSpend 0 = .ok (.bipush 16, 2) := by decide +kernel
theorem d_D_roomToSpend_2 : decode b_D_roomToSpend 2 = .ok (.aload_n 0, 1) := by decide +kernel
theorem d_D_roomToSpend_3 : decode b_D_roomToSpend 3 = .ok (.getfield 25, 3) := by decide +kernel
theorem d_D_roomToSpend_6 : decode b_D_roomToSpend 6 = .ok (.isub, 1) := by decide +kernel
theorem d_D_roomToSpend_7 : decode b_D_roomToSpend 7 = .ok (.ireturn, 1) := by decide +kernel
theorem d_D_roomToMake_0 : decode b_D_roomToMake 0 = .ok (.bipush 16, 2) := by decide +kernel
theorem d_D_roomToMake_2 : decode b_D_roomToMake 2 = .ok (.aload_n 0, 1) := by decide +kernel
theorem d_D_roomToMake_3 : decode b_D_roomToMake 3 = .ok (.getfield 29, 3) := by decide +kernel
theorem d_D_roomToMake_6 : decode b_D_roomToMake 6 = .ok (.isub, 1) := by decide +kernel
theorem d_D_roomToMake_7 : decode b_D_roomToMake 7 = .ok (.ireturn, 1) := by decide +kernel
theorem d_D_hasToSpend_0 : decode b_D_hasToSpend 0 = .ok (.iconst 0, 1) := by decide +kernel
theorem d_D_hasToSpend_1 : decode b_D_hasToSpend 1 = .ok (.istore_n 2, 1) := by decide +kernel
theorem d_D_hasToSpend_2 : decode b_D_hasToSpend 2 = .ok (.iload_n 2, 1) := by decide +kernel
theorem d_D_hasToSpend_3 : decode b_D_hasToSpend 3 = .ok (.aload_n 0, 1) := by decide +kernel
theorem d_D_hasToSpend_4 : decode b_D_hasToSpend 4 = .ok (.getfield 25, 3) := by decide +kernel
theorem d_D_hasToSpend_7 : decode b_D_hasToSpend 7 = .ok (.if_icmp .ge 21, 3) := by decide +kernel
theorem d_D_hasToSpend_10 : decode b_D_hasToSpend 10 = .ok (.aload_n 0, 1) := by decide +kernel
theorem d_D_hasToSpend_11 : decode b_D_hasToSpend 11 = .ok (.getfield 9, 3) := by decide +kernel
theorem d_D_hasToSpend_14 : decode b_D_hasToSpend 14 = .ok (.iload_n 2, 1) := by decide +kernel
theorem d_D_hasToSpend_15 : decode b_D_hasToSpend 15 = .ok (.iaload, 1) := by decide +kernel
theorem d_D_hasToSpend_16 : decode b_D_hasToSpend 16 = .ok (.iload_n 1, 1) := by decide +kernel
theorem d_D_hasToSpend_17 : decode b_D_hasToSpend 17 = .ok (.if_icmp .ne 5, 3) := by decide +kernel
theorem d_D_hasToSpend_20 : decode b_D_hasToSpend 20 = .ok (.iconst 1, 1) := by decide +kernel
theorem d_D_hasToSpend_21 : decode b_D_hasToSpend 21 = .ok (.ireturn, 1) := by decide +kernel
theorem d_D_hasToSpend_22 : decode b_D_hasToSpend 22 = .ok (.iinc 2 1, 3) := by decide +kernel
theorem d_D_hasToSpend_25 : decode b_D_hasToSpend 25 = .ok (.goto (-23), 3) := by decide +kernel
theorem d_D_hasToSpend_28 : decode b_D_hasToSpend 28 = .ok (.iconst 0, 1) := by decide +kernel
theorem d_D_hasToSpend_29 : decode b_D_hasToSpend 29 = .ok (.ireturn, 1) := by decide +kernel
theorem d_D_writeToSpend_0 : decode b_D_writeToSpend 0 = .ok (.iload_n 1, 1) := by decide +kernel
theorem d_D_writeToSpend_1 : decode b_D_writeToSpend 1 = .ok (.ifCond .lt 23, 3) := by decide +kernel
theorem d_D_writeToSpend_4 : decode b_D_writeToSpend 4 = .ok (.iload_n 1, 1) := by decide +kernel
theorem d_D_writeToSpend_5 : decode b_D_writeToSpend 5 = .ok (.aload_n 0, 1) := by decide +kernel
theorem d_D_writeToSpend_6 : decode b_D_writeToSpend 6 = .ok (.invokevirtual 32, 3) := by decide +kernel
theorem d_D_writeToSpend_9 : decode b_D_writeToSpend 9 = .ok (.if_icmp .ge 15, 3) := by decide +kernel
theorem d_D_writeToSpend_12 : decode b_D_writeToSpend 12 = .ok (.aload_n 0, 1) := by decide +kernel
theorem d_D_writeToSpend_13 : decode b_D_writeToSpend 13 = .ok (.getfield 9, 3) := by decide +kernel
theorem d_D_writeToSpend_16 : decode b_D_writeToSpend 16 = .ok (.aload_n 0, 1) := by decide +kernel
theorem d_D_writeToSpend_17 : decode b_D_writeToSpend 17 = .ok (.getfield 25, 3) := by decide +kernel
theorem d_D_writeToSpend_20 : decode b_D_writeToSpend 20 = .ok (.iload_n 1, 1) := by decide +kernel
theorem d_D_writeToSpend_21 : decode b_D_writeToSpend 21 = .ok (.iadd, 1) := by decide +kernel
theorem d_D_writeToSpend_22 : decode b_D_writeToSpend 22 = .ok (.iload_n 2, 1) := by decide +kernel
theorem d_D_writeToSpend_23 : decode b_D_writeToSpend 23 = .ok (.iastore, 1) := by decide +kernel
theorem d_D_writeToSpend_24 : decode b_D_writeToSpend 24 = .ok (.return_, 1) := by decide +kernel
theorem d_D_keepToSpend_0 : decode b_D_keepToSpend 0 = .ok (.iload_n 1, 1) := by decide +kernel
theorem d_D_keepToSpend_1 : decode b_D_keepToSpend 1 = .ok (.ifCond .lt 21, 3) := by decide +kernel
theorem d_D_keepToSpend_4 : decode b_D_keepToSpend 4 = .ok (.iload_n 1, 1) := by decide +kernel
theorem d_D_keepToSpend_5 : decode b_D_keepToSpend 5 = .ok (.aload_n 0, 1) := by decide +kernel
theorem d_D_keepToSpend_6 : decode b_D_keepToSpend 6 = .ok (.invokevirtual 32, 3) := by decide +kernel
theorem d_D_keepToSpend_9 : decode b_D_keepToSpend 9 = .ok (.if_icmp .gt 13, 3) := by decide +kernel
theorem d_D_keepToSpend_12 : decode b_D_keepToSpend 12 = .ok (.aload_n 0, 1) := by decide +kernel
theorem d_D_keepToSpend_13 : decode b_D_keepToSpend 13 = .ok (.dup, 1) := by decide +kernel
theorem d_D_keepToSpend_14 : decode b_D_keepToSpend 14 = .ok (.getfield 25, 3) := by decide +kernel
theorem d_D_keepToSpend_17 : decode b_D_keepToSpend 17 = .ok (.iload_n 1, 1) := by decide +kernel
theorem d_D_keepToSpend_18 : decode b_D_keepToSpend 18 = .ok (.iadd, 1) := by decide +kernel
theorem d_D_keepToSpend_19 : decode b_D_keepToSpend 19 = .ok (.putfield 25, 3) := by decide +kernel
theorem d_D_keepToSpend_22 : decode b_D_keepToSpend 22 = .ok (.return_, 1) := by decide +kernel
theorem d_D_addToMake_0 : decode b_D_addToMake 0 = .ok (.aload_n 0, 1) := by decide +kernel
theorem d_D_addToMake_1 : decode b_D_addToMake 1 = .ok (.invokevirtual 36, 3) := by decide +kernel
theorem d_D_addToMake_4 : decode b_D_addToMake 4 = .ok (.iconst 1, 1) := by decide +kernel
theorem d_D_addToMake_5 : decode b_D_addToMake 5 = .ok (.if_icmp .ge 4, 3) := by decide +kernel
theorem d_D_addToMake_8 : decode b_D_addToMake 8 = .ok (.return_, 1) := by decide +kernel
theorem d_D_addToMake_9 : decode b_D_addToMake 9 = .ok (.aload_n 0, 1) := by decide +kernel
theorem d_D_addToMake_10 : decode b_D_addToMake 10 = .ok (.getfield 15, 3) := by decide +kernel
theorem d_D_addToMake_13 : decode b_D_addToMake 13 = .ok (.aload_n 0, 1) := by decide +kernel
theorem d_D_addToMake_14 : decode b_D_addToMake 14 = .ok (.getfield 29, 3) := by decide +kernel
theorem d_D_addToMake_17 : decode b_D_addToMake 17 = .ok (.iload_n 1, 1) := by decide +kernel
theorem d_D_addToMake_18 : decode b_D_addToMake 18 = .ok (.iastore, 1) := by decide +kernel
theorem d_D_addToMake_19 : decode b_D_addToMake 19 = .ok (.aload_n 0, 1) := by decide +kernel
theorem d_D_addToMake_20 : decode b_D_addToMake 20 = .ok (.getfield 18, 3) := by decide +kernel
theorem d_D_addToMake_23 : decode b_D_addToMake 23 = .ok (.aload_n 0, 1) := by decide +kernel
theorem d_D_addToMake_24 : decode b_D_addToMake 24 = .ok (.getfield 29, 3) := by decide +kernel
theorem d_D_addToMake_27 : decode b_D_addToMake 27 = .ok (.lload_n 2, 1) := by decide +kernel
theorem d_D_addToMake_28 : decode b_D_addToMake 28 = .ok (.lastore, 1) := by decide +kernel
theorem d_D_addToMake_29 : decode b_D_addToMake 29 = .ok (.aload_n 0, 1) := by decide +kernel
theorem d_D_addToMake_30 : decode b_D_addToMake 30 = .ok (.getfield 22, 3) := by decide +kernel
theorem d_D_addToMake_33 : decode b_D_addToMake 33 = .ok (.aload_n 0, 1) := by decide +kernel
theorem d_D_addToMake_34 : decode b_D_addToMake 34 = .ok (.getfield 29, 3) := by decide +kernel
theorem d_D_addToMake_37 : decode b_D_addToMake 37 = .ok (.lload 4, 2) := by decide +kernel
theorem d_D_addToMake_39 : decode b_D_addToMake 39 = .ok (.lastore, 1) := by decide +kernel
theorem d_D_addToMake_40 : decode b_D_addToMake 40 = .ok (.aload_n 0, 1) := by decide +kernel
theorem d_D_addToMake_41 : decode b_D_addToMake 41 = .ok (.dup, 1) := by decide +kernel
theorem d_D_addToMake_42 : decode b_D_addToMake 42 = .ok (.getfield 29, 3) := by decide +kernel
theorem d_D_addToMake_45 : decode b_D_addToMake 45 = .ok (.iconst 1, 1) := by decide +kernel
theorem d_D_addToMake_46 : decode b_D_addToMake 46 = .ok (.iadd, 1) := by decide +kernel
theorem d_D_addToMake_47 : decode b_D_addToMake 47 = .ok (.putfield 29, 3) := by decide +kernel
theorem d_D_addToMake_50 : decode b_D_addToMake 50 = .ok (.return_, 1) := by decide +kernel
theorem d_D_clear_0 : decode b_D_clear 0 = .ok (.aload_n 0, 1) := by decide +kernel
theorem d_D_clear_1 : decode b_D_clear 1 = .ok (.iconst 0, 1) := by decide +kernel
theorem d_D_clear_2 : decode b_D_clear 2 = .ok (.putfield 25, 3) := by decide +kernel
theorem d_D_clear_5 : decode b_D_clear 5 = .ok (.aload_n 0, 1) := by decide +kernel
theorem d_D_clear_6 : decode b_D_clear 6 = .ok (.iconst 0, 1) := by decide +kernel
theorem d_D_clear_7 : decode b_D_clear 7 = .ok (.putfield 29, 3) := by decide +kernel
theorem d_D_clear_10 : decode b_D_clear 10 = .ok (.aload_n 0, 1) := by decide +kernel
theorem d_D_clear_11 : decode b_D_clear 11 = .ok (.lconst 0, 1) := by decide +kernel
theorem d_D_clear_12 : decode b_D_clear 12 = .ok (.putfield 39, 3) := by decide +kernel
theorem d_D_clear_15 : decode b_D_clear 15 = .ok (.return_, 1) := by decide +kernel
theorem d_O_init_0 : decode b_O_init 0 = .ok (.aload_n 0, 1) := by decide +kernel
theorem d_O_init_1 : decode b_O_init 1 = .ok (.invokespecial 3, 3) := by decide +kernel
theorem d_O_init_4 : decode b_O_init 4 = .ok (.aload_n 0, 1) := by decide +kernel
theorem d_O_init_5 : decode b_O_init 5 = .ok (.sipush 2048, 3) := by decide +kernel
theorem d_O_init_8 : decode b_O_init 8 = .ok (.newarray .int, 2) := by decide +kernel
theorem d_O_init_10 : decode b_O_init 10 = .ok (.putfield 9, 3) := by decide +kernel
theorem d_O_init_13 : decode b_O_init 13 = .ok (.aload_n 0, 1) := by decide +kernel
theorem d_O_init_14 : decode b_O_init 14 = .ok (.sipush 2048, 3) := by decide +kernel
theorem d_O_init_17 : decode b_O_init 17 = .ok (.newarray .long, 2) := by decide +kernel
theorem d_O_init_19 : decode b_O_init 19 = .ok (.putfield 15, 3) := by decide +kernel
theorem d_O_init_22 : decode b_O_init 22 = .ok (.aload_n 0, 1) := by decide +kernel
theorem d_O_init_23 : decode b_O_init 23 = .ok (.sipush 2048, 3) := by decide +kernel
theorem d_O_init_26 : decode b_O_init 26 = .ok (.newarray .long, 2) := by decide +kernel
theorem d_O_init_28 : decode b_O_init 28 = .ok (.putfield 19, 3) := by decide +kernel
theorem d_O_init_31 : decode b_O_init 31 = .ok (.aload_n 0, 1) := by decide +kernel
theorem d_O_init_32 : decode b_O_init 32 = .ok (.sipush 2048, 3) := by decide +kernel
theorem d_O_init_35 : decode b_O_init 35 = .ok (.newarray .int, 2) := by decide +kernel
theorem d_O_init_37 : decode b_O_init 37 = .ok (.putfield 22, 3) := by decide +kernel
theorem d_O_init_40 : decode b_O_init 40 = .ok (.aload_n 0, 1) := by decide +kernel
theorem d_O_init_41 : decode b_O_init 41 = .ok (.sipush 2048, 3) := by decide +kernel
theorem d_O_init_44 : decode b_O_init 44 = .ok (.newarray .int, 2) := by decide +kernel
theorem d_O_init_46 : decode b_O_init 46 = .ok (.putfield 25, 3) := by decide +kernel
theorem d_O_init_49 : decode b_O_init 49 = .ok (.return_, 1) := by decide +kernel
theorem d_O_room_0 : decode b_O_room 0 = .ok (.sipush 2048, 3) := by decide +kernel
theorem d_O_room_3 : decode b_O_room 3 = .ok (.aload_n 0, 1) := by decide +kernel
theorem d_O_room_4 : decode b_O_room 4 = .ok (.getfield 28, 3) := by decide +kernel
theorem d_O_room_7 : decode b_O_room 7 = .ok (.isub, 1) := by decide +kernel
theorem d_O_room_8 : decode b_O_room 8 = .ok (.ireturn, 1) := by decide +kernel
theorem d_O_has_0 : decode b_O_has 0 = .ok (.iload_n 1, 1) := by decide +kernel
theorem d_O_has_1 : decode b_O_has 1 = .ok (.ifCond .lt 15, 3) := by decide +kernel
theorem d_O_has_4 : decode b_O_has 4 = .ok (.iload_n 1, 1) := by decide +kernel
theorem d_O_has_5 : decode b_O_has 5 = .ok (.aload_n 0, 1) := by decide +kernel
theorem d_O_has_6 : decode b_O_has 6 = .ok (.getfield 28, 3) := by decide +kernel
theorem d_O_has_9 : decode b_O_has 9 = .ok (.if_icmp .ge 7, 3) := by decide +kernel
theorem d_O_has_12 : decode b_O_has 12 = .ok (.iconst 1, 1) := by decide +kernel
theorem d_O_has_13 : decode b_O_has 13 = .ok (.goto 4, 3) := by decide +kernel
theorem d_O_has_16 : decode b_O_has 16 = .ok (.iconst 0, 1) := by decide +kernel
theorem d_O_has_17 : decode b_O_has 17 = .ok (.ireturn, 1) := by decide +kernel
theorem d_O_isLive_0 : decode b_O_isLive 0 = .ok (.aload_n 0, 1) := by decide +kernel
theorem d_O_isLive_1 : decode b_O_isLive 1 = .ok (.iload_n 1, 1) := by decide +kernel
theorem d_O_isLive_2 : decode b_O_isLive 2 = .ok (.invokevirtual 32, 3) := by decide +kernel
theorem d_O_isLive_5 : decode b_O_isLive 5 = .ok (.ifCond .eq 17, 3) := by decide +kernel
theorem d_O_isLive_8 : decode b_O_isLive 8 = .ok (.aload_n 0, 1) := by decide +kernel
theorem d_O_isLive_9 : decode b_O_isLive 9 = .ok (.getfield 25, 3) := by decide +kernel
theorem d_O_isLive_12 : decode b_O_isLive 12 = .ok (.iload_n 1, 1) := by decide +kernel
theorem d_O_isLive_13 : decode b_O_isLive 13 = .ok (.iaload, 1) := by decide +kernel
theorem d_O_isLive_14 : decode b_O_isLive 14 = .ok (.iconst (-1), 1) := by decide +kernel
theorem d_O_isLive_15 : decode b_O_isLive 15 = .ok (.if_icmp .ne 7, 3) := by decide +kernel
theorem d_O_isLive_18 : decode b_O_isLive 18 = .ok (.iconst 1, 1) := by decide +kernel
theorem d_O_isLive_19 : decode b_O_isLive 19 = .ok (.goto 4, 3) := by decide +kernel
theorem d_O_isLive_22 : decode b_O_isLive 22 = .ok (.iconst 0, 1) := by decide +kernel
theorem d_O_isLive_23 : decode b_O_isLive 23 = .ok (.ireturn, 1) := by decide +kernel
theorem d_O_isLiveOf_0 : decode b_O_isLiveOf 0 = .ok (.aload_n 0, 1) := by decide +kernel
theorem d_O_isLiveOf_1 : decode b_O_isLiveOf 1 = .ok (.iload_n 2, 1) := by decide +kernel
theorem d_O_isLiveOf_2 : decode b_O_isLiveOf 2 = .ok (.invokevirtual 36, 3) := by decide +kernel
theorem d_O_isLiveOf_5 : decode b_O_isLiveOf 5 = .ok (.ifCond .eq 17, 3) := by decide +kernel
theorem d_O_isLiveOf_8 : decode b_O_isLiveOf 8 = .ok (.aload_n 0, 1) := by decide +kernel
theorem d_O_isLiveOf_9 : decode b_O_isLiveOf 9 = .ok (.getfield 9, 3) := by decide +kernel
theorem d_O_isLiveOf_12 : decode b_O_isLiveOf 12 = .ok (.iload_n 2, 1) := by decide +kernel
theorem d_O_isLiveOf_13 : decode b_O_isLiveOf 13 = .ok (.iaload, 1) := by decide +kernel
theorem d_O_isLiveOf_14 : decode b_O_isLiveOf 14 = .ok (.iload_n 1, 1) := by decide +kernel
theorem d_O_isLiveOf_15 : decode b_O_isLiveOf 15 = .ok (.if_icmp .ne 7, 3) := by decide +kernel
theorem d_O_isLiveOf_18 : decode b_O_isLiveOf 18 = .ok (.iconst 1, 1) := by decide +kernel
theorem d_O_isLiveOf_19 : decode b_O_isLiveOf 19 = .ok (.goto 4, 3) := by decide +kernel
theorem d_O_isLiveOf_22 : decode b_O_isLiveOf 22 = .ok (.iconst 0, 1) := by decide +kernel
theorem d_O_isLiveOf_23 : decode b_O_isLiveOf 23 = .ok (.ireturn, 1) := by decide +kernel
theorem d_O_amountOf_0 : decode b_O_amountOf 0 = .ok (.aload_n 0, 1) := by decide +kernel
theorem d_O_amountOf_1 : decode b_O_amountOf 1 = .ok (.iload_n 1, 1) := by decide +kernel
theorem d_O_amountOf_2 : decode b_O_amountOf 2 = .ok (.invokevirtual 32, 3) := by decide +kernel
theorem d_O_amountOf_5 : decode b_O_amountOf 5 = .ok (.ifCond .eq 12, 3) := by decide +kernel
theorem d_O_amountOf_8 : decode b_O_amountOf 8 = .ok (.aload_n 0, 1) := by decide +kernel
theorem d_O_amountOf_9 : decode b_O_amountOf 9 = .ok (.getfield 15, 3) := by decide +kernel
theorem d_O_amountOf_12 : decode b_O_amountOf 12 = .ok (.iload_n 1, 1) := by decide +kernel
theorem d_O_amountOf_13 : decode b_O_amountOf 13 = .ok (.laload, 1) := by decide +kernel
theorem d_O_amountOf_14 : decode b_O_amountOf 14 = .ok (.goto 4, 3) := by decide +kernel
theorem d_O_amountOf_17 : decode b_O_amountOf 17 = .ok (.lconst 0, 1) := by decide +kernel
theorem d_O_amountOf_18 : decode b_O_amountOf 18 = .ok (.lreturn, 1) := by decide +kernel
theorem d_O_liveOnes_0 : decode b_O_liveOnes 0 = .ok (.iconst 0, 1) := by decide +kernel
theorem d_O_liveOnes_1 : decode b_O_liveOnes 1 = .ok (.istore_n 1, 1) := by decide +kernel
theorem d_O_liveOnes_2 : decode b_O_liveOnes 2 = .ok (.iconst 0, 1) := by decide +kernel
theorem d_O_liveOnes_3 : decode b_O_liveOnes 3 = .ok (.istore_n 2, 1) := by decide +kernel
theorem d_O_liveOnes_4 : decode b_O_liveOnes 4 = .ok (.iload_n 2, 1) := by decide +kernel
theorem d_O_liveOnes_5 : decode b_O_liveOnes 5 = .ok (.aload_n 0, 1) := by decide +kernel
theorem d_O_liveOnes_6 : decode b_O_liveOnes 6 = .ok (.getfield 28, 3) := by decide +kernel
theorem d_O_liveOnes_9 : decode b_O_liveOnes 9 = .ok (.if_icmp .ge 20, 3) := by decide +kernel
theorem d_O_liveOnes_12 : decode b_O_liveOnes 12 = .ok (.aload_n 0, 1) := by decide +kernel
theorem d_O_liveOnes_13 : decode b_O_liveOnes 13 = .ok (.iload_n 2, 1) := by decide +kernel
theorem d_O_liveOnes_14 : decode b_O_liveOnes 14 = .ok (.invokevirtual 36, 3) := by decide +kernel
theorem d_O_liveOnes_17 : decode b_O_liveOnes 17 = .ok (.ifCond .eq 6, 3) := by decide +kernel
theorem d_O_liveOnes_20 : decode b_O_liveOnes 20 = .ok (.iinc 1 1, 3) := by decide +kernel
theorem d_O_liveOnes_23 : decode b_O_liveOnes 23 = .ok (.iinc 2 1, 3) := by decide +kernel
theorem d_O_liveOnes_26 : decode b_O_liveOnes 26 = .ok (.goto (-22), 3) := by decide +kernel
theorem d_O_liveOnes_29 : decode b_O_liveOnes 29 = .ok (.iload_n 1, 1) := by decide +kernel
theorem d_O_liveOnes_30 : decode b_O_liveOnes 30 = .ok (.ireturn, 1) := by decide +kernel
theorem d_O_add_0 : decode b_O_add 0 = .ok (.aload_n 0, 1) := by decide +kernel
theorem d_O_add_1 : decode b_O_add 1 = .ok (.invokevirtual 39, 3) := by decide +kernel
theorem d_O_add_4 : decode b_O_add 4 = .ok (.iconst 1, 1) := by decide +kernel
theorem d_O_add_5 : decode b_O_add 5 = .ok (.if_icmp .ge 4, 3) := by decide +kernel
theorem d_O_add_8 : decode b_O_add 8 = .ok (.return_, 1) := by decide +kernel
theorem d_O_add_9 : decode b_O_add 9 = .ok (.aload_n 0, 1) := by decide +kernel
theorem d_O_add_10 : decode b_O_add 10 = .ok (.getfield 9, 3) := by decide +kernel
theorem d_O_add_13 : decode b_O_add 13 = .ok (.aload_n 0, 1) := by decide +kernel
theorem d_O_add_14 : decode b_O_add 14 = .ok (.getfield 28, 3) := by decide +kernel
theorem d_O_add_17 : decode b_O_add 17 = .ok (.iload_n 1, 1) := by decide +kernel
theorem d_O_add_18 : decode b_O_add 18 = .ok (.iastore, 1) := by decide +kernel
theorem d_O_add_19 : decode b_O_add 19 = .ok (.aload_n 0, 1) := by decide +kernel
theorem d_O_add_20 : decode b_O_add 20 = .ok (.getfield 15, 3) := by decide +kernel
theorem d_O_add_23 : decode b_O_add 23 = .ok (.aload_n 0, 1) := by decide +kernel
theorem d_O_add_24 : decode b_O_add 24 = .ok (.getfield 28, 3) := by decide +kernel
theorem d_O_add_27 : decode b_O_add 27 = .ok (.lload_n 2, 1) := by decide +kernel
theorem d_O_add_28 : decode b_O_add 28 = .ok (.lastore, 1) := by decide +kernel
theorem d_O_add_29 : decode b_O_add 29 = .ok (.aload_n 0, 1) := by decide +kernel
theorem d_O_add_30 : decode b_O_add 30 = .ok (.getfield 19, 3) := by decide +kernel
theorem d_O_add_33 : decode b_O_add 33 = .ok (.aload_n 0, 1) := by decide +kernel
theorem d_O_add_34 : decode b_O_add 34 = .ok (.getfield 28, 3) := by decide +kernel
theorem d_O_add_37 : decode b_O_add 37 = .ok (.lload 4, 2) := by decide +kernel
theorem d_O_add_39 : decode b_O_add 39 = .ok (.lastore, 1) := by decide +kernel
theorem d_O_add_40 : decode b_O_add 40 = .ok (.aload_n 0, 1) := by decide +kernel
theorem d_O_add_41 : decode b_O_add 41 = .ok (.getfield 22, 3) := by decide +kernel
theorem d_O_add_44 : decode b_O_add 44 = .ok (.aload_n 0, 1) := by decide +kernel
theorem d_O_add_45 : decode b_O_add 45 = .ok (.getfield 28, 3) := by decide +kernel
theorem d_O_add_48 : decode b_O_add 48 = .ok (.iload 6, 2) := by decide +kernel
theorem d_O_add_50 : decode b_O_add 50 = .ok (.iastore, 1) := by decide +kernel
theorem d_O_add_51 : decode b_O_add 51 = .ok (.aload_n 0, 1) := by decide +kernel
theorem d_O_add_52 : decode b_O_add 52 = .ok (.getfield 25, 3) := by decide +kernel
theorem d_O_add_55 : decode b_O_add 55 = .ok (.aload_n 0, 1) := by decide +kernel
theorem d_O_add_56 : decode b_O_add 56 = .ok (.getfield 28, 3) := by decide +kernel
theorem d_O_add_59 : decode b_O_add 59 = .ok (.iconst (-1), 1) := by decide +kernel
theorem d_O_add_60 : decode b_O_add 60 = .ok (.iastore, 1) := by decide +kernel
theorem d_O_add_61 : decode b_O_add 61 = .ok (.aload_n 0, 1) := by decide +kernel
theorem d_O_add_62 : decode b_O_add 62 = .ok (.dup, 1) := by decide +kernel
theorem d_O_add_63 : decode b_O_add 63 = .ok (.getfield 28, 3) := by decide +kernel
theorem d_O_add_66 : decode b_O_add 66 = .ok (.iconst 1, 1) := by decide +kernel
theorem d_O_add_67 : decode b_O_add 67 = .ok (.iadd, 1) := by decide +kernel
theorem d_O_add_68 : decode b_O_add 68 = .ok (.putfield 28, 3) := by decide +kernel
theorem d_O_add_71 : decode b_O_add 71 = .ok (.return_, 1) := by decide +kernel
theorem d_O_takeOff_0 : decode b_O_takeOff 0 = .ok (.aload_n 0, 1) := by decide +kernel
theorem d_O_takeOff_1 : decode b_O_takeOff 1 = .ok (.iload_n 1, 1) := by decide +kernel
theorem d_O_takeOff_2 : decode b_O_takeOff 2 = .ok (.invokevirtual 36, 3) := by decide +kernel
theorem d_O_takeOff_5 : decode b_O_takeOff 5 = .ok (.ifCond .eq 10, 3) := by decide +kernel
theorem d_O_takeOff_8 : decode b_O_takeOff 8 = .ok (.aload_n 0, 1) := by decide +kernel
theorem d_O_takeOff_9 : decode b_O_takeOff 9 = .ok (.getfield 25, 3) := by decide +kernel
theorem d_O_takeOff_12 : decode b_O_takeOff 12 = .ok (.iload_n 1, 1) := by decide +kernel
theorem d_O_takeOff_13 : decode b_O_takeOff 13 = .ok (.iload_n 2, 1) := by decide +kernel
theorem d_O_takeOff_14 : decode b_O_takeOff 14 = .ok (.iastore, 1) := by decide +kernel
theorem d_O_takeOff_15 : decode b_O_takeOff 15 = .ok (.return_, 1) := by decide +kernel
theorem d_O_takeBackFrom_0 : decode b_O_takeBackFrom 0 = .ok (.aload_n 0, 1) := by decide +kernel
theorem d_O_takeBackFrom_1 : decode b_O_takeBackFrom 1 = .ok (.getfield 28, 3) := by decide +kernel
theorem d_O_takeBackFrom_4 : decode b_O_takeBackFrom 4 = .ok (.ifCond .le 31, 3) := by decide +kernel
theorem d_O_takeBackFrom_7 : decode b_O_takeBackFrom 7 = .ok (.aload_n 0, 1) := by decide +kernel
theorem d_O_takeBackFrom_8 : decode b_O_takeBackFrom 8 = .ok (.getfield 22, 3) := by decide +kernel
theorem d_O_takeBackFrom_11 : decode b_O_takeBackFrom 11 = .ok (.aload_n 0, 1) := by decide +kernel
theorem d_O_takeBackFrom_12 : decode b_O_takeBackFrom 12 = .ok (.getfield 28, 3) := by decide +kernel
theorem d_O_takeBackFrom_15 : decode b_O_takeBackFrom 15 = .ok (.iconst 1, 1) := by decide +kernel
theorem d_O_takeBackFrom_16 : decode b_O_takeBackFrom 16 = .ok (.isub, 1) := by decide +kernel
theorem d_O_takeBackFrom_17 : decode b_O_takeBackFrom 17 = .ok (.iaload, 1) := by decide +kernel
theorem d_O_takeBackFrom_18 : decode b_O_takeBackFrom 18 = .ok (.iload_n 1, 1) := by decide +kernel
theorem d_O_takeBackFrom_19 : decode b_O_takeBackFrom 19 = .ok (.if_icmp .lt 16, 3) := by decide +kernel
theorem d_O_takeBackFrom_22 : decode b_O_takeBackFrom 22 = .ok (.aload_n 0, 1) := by decide +kernel
theorem d_O_takeBackFrom_23 : decode b_O_takeBackFrom 23 = .ok (.dup, 1) := by decide +kernel
theorem d_O_takeBackFrom_24 : decode b_O_takeBackFrom 24 = .ok (.getfield 28, 3) := by decide +kernel
theorem d_O_takeBackFrom_27 : decode b_O_takeBackFrom 27 = .ok (.iconst 1, 1) := by decide +kernel
theorem d_O_takeBackFrom_28 : decode b_O_takeBackFrom 28 = .ok (.isub, 1) := by decide +kernel
theorem d_O_takeBackFrom_29 : decode b_O_takeBackFrom 29 = .ok (.putfield 28, 3) := by decide +kernel
theorem d_O_takeBackFrom_32 : decode b_O_takeBackFrom 32 = .ok (.goto (-32), 3) := by decide +kernel
theorem d_O_takeBackFrom_35 : decode b_O_takeBackFrom 35 = .ok (.iconst 0, 1) := by decide +kernel
theorem d_O_takeBackFrom_36 : decode b_O_takeBackFrom 36 = .ok (.istore_n 2, 1) := by decide +kernel
theorem d_O_takeBackFrom_37 : decode b_O_takeBackFrom 37 = .ok (.iload_n 2, 1) := by decide +kernel
theorem d_O_takeBackFrom_38 : decode b_O_takeBackFrom 38 = .ok (.aload_n 0, 1) := by decide +kernel
theorem d_O_takeBackFrom_39 : decode b_O_takeBackFrom 39 = .ok (.getfield 28, 3) := by decide +kernel
theorem d_O_takeBackFrom_42 : decode b_O_takeBackFrom 42 = .ok (.if_icmp .ge 26, 3) := by decide +kernel
theorem d_O_takeBackFrom_45 : decode b_O_takeBackFrom 45 = .ok (.aload_n 0, 1) := by decide +kernel
theorem d_O_takeBackFrom_46 : decode b_O_takeBackFrom 46 = .ok (.getfield 25, 3) := by decide +kernel
theorem d_O_takeBackFrom_49 : decode b_O_takeBackFrom 49 = .ok (.iload_n 2, 1) := by decide +kernel
theorem d_O_takeBackFrom_50 : decode b_O_takeBackFrom 50 = .ok (.iaload, 1) := by decide +kernel
theorem d_O_takeBackFrom_51 : decode b_O_takeBackFrom 51 = .ok (.iload_n 1, 1) := by decide +kernel
theorem d_O_takeBackFrom_52 : decode b_O_takeBackFrom 52 = .ok (.if_icmp .lt 10, 3) := by decide +kernel
theorem d_O_takeBackFrom_55 : decode b_O_takeBackFrom 55 = .ok (.aload_n 0, 1) := by decide +kernel
theorem d_O_takeBackFrom_56 : decode b_O_takeBackFrom 56 = .ok (.getfield 25, 3) := by decide +kernel
theorem d_O_takeBackFrom_59 : decode b_O_takeBackFrom 59 = .ok (.iload_n 2, 1) := by decide +kernel
theorem d_O_takeBackFrom_60 : decode b_O_takeBackFrom 60 = .ok (.iconst (-1), 1) := by decide +kernel
theorem d_O_takeBackFrom_61 : decode b_O_takeBackFrom 61 = .ok (.iastore, 1) := by decide +kernel
theorem d_O_takeBackFrom_62 : decode b_O_takeBackFrom 62 = .ok (.iinc 2 1, 3) := by decide +kernel
theorem d_O_takeBackFrom_65 : decode b_O_takeBackFrom 65 = .ok (.goto (-28), 3) := by decide +kernel
theorem d_O_takeBackFrom_68 : decode b_O_takeBackFrom 68 = .ok (.return_, 1) := by decide +kernel
theorem d_O_nextByAmount_0 : decode b_O_nextByAmount 0 = .ok (.iconst (-1), 1) := by decide +kernel
theorem d_O_nextByAmount_1 : decode b_O_nextByAmount 1 = .ok (.istore_n 3, 1) := by decide +kernel
theorem d_O_nextByAmount_2 : decode b_O_nextByAmount 2 = .ok (.iconst 0, 1) := by decide +kernel
theorem d_O_nextByAmount_3 : decode b_O_nextByAmount 3 = .ok (.istore 4, 2) := by decide +kernel
theorem d_O_nextByAmount_5 : decode b_O_nextByAmount 5 = .ok (.iload 4, 2) := by decide +kernel
theorem d_O_nextByAmount_7 : decode b_O_nextByAmount 7 = .ok (.aload_n 0, 1) := by decide +kernel
theorem d_O_nextByAmount_8 : decode b_O_nextByAmount 8 = .ok (.getfield 28, 3) := by decide +kernel
theorem d_O_nextByAmount_11 : decode b_O_nextByAmount 11 = .ok (.if_icmp .ge 58, 3) := by decide +kernel
theorem d_O_nextByAmount_14 : decode b_O_nextByAmount 14 = .ok (.aload_n 0, 1) := by decide +kernel
theorem d_O_nextByAmount_15 : decode b_O_nextByAmount 15 = .ok (.iload_n 1, 1) := by decide +kernel
theorem d_O_nextByAmount_16 : decode b_O_nextByAmount 16 = .ok (.iload 4, 2) := by decide +kernel
theorem d_O_nextByAmount_18 : decode b_O_nextByAmount 18 = .ok (.invokevirtual 43, 3) := by decide +kernel
theorem d_O_nextByAmount_21 : decode b_O_nextByAmount 21 = .ok (.ifCond .eq 42, 3) := by decide +kernel
theorem d_O_nextByAmount_24 : decode b_O_nextByAmount 24 = .ok (.aload_n 0, 1) := by decide +kernel
theorem d_O_nextByAmount_25 : decode b_O_nextByAmount 25 = .ok (.iload_n 2, 1) := by decide +kernel
theorem d_O_nextByAmount_26 : decode b_O_nextByAmount 26 = .ok (.invokevirtual 32, 3) := by decide +kernel
theorem d_O_nextByAmount_29 : decode b_O_nextByAmount 29 = .ok (.ifCond .eq 13, 3) := by decide +kernel
theorem d_O_nextByAmount_32 : decode b_O_nextByAmount 32 = .ok (.aload_n 0, 1) := by decide +kernel
theorem d_O_nextByAmount_33 : decode b_O_nextByAmount 33 = .ok (.iload_n 2, 1) := by decide +kernel
theorem d_O_nextByAmount_34 : decode b_O_nextByAmount 34 = .ok (.iload 4, 2) := by decide +kernel
theorem d_O_nextByAmount_36 : decode b_O_nextByAmount 36 = .ok (.invokevirtual 47, 3) := by decide +kernel
theorem d_O_nextByAmount_39 : decode b_O_nextByAmount 39 = .ok (.ifCond .eq 24, 3) := by decide +kernel
theorem d_O_nextByAmount_42 : decode b_O_nextByAmount 42 = .ok (.aload_n 0, 1) := by decide +kernel
theorem d_O_nextByAmount_43 : decode b_O_nextByAmount 43 = .ok (.iload_n 3, 1) := by decide +kernel
theorem d_O_nextByAmount_44 : decode b_O_nextByAmount 44 = .ok (.invokevirtual 32, 3) := by decide +kernel
theorem d_O_nextByAmount_47 : decode b_O_nextByAmount 47 = .ok (.ifCond .eq 13, 3) := by decide +kernel
theorem d_O_nextByAmount_50 : decode b_O_nextByAmount 50 = .ok (.aload_n 0, 1) := by decide +kernel
theorem d_O_nextByAmount_51 : decode b_O_nextByAmount 51 = .ok (.iload 4, 2) := by decide +kernel
theorem d_O_nextByAmount_53 : decode b_O_nextByAmount 53 = .ok (.iload_n 3, 1) := by decide +kernel
theorem d_O_nextByAmount_54 : decode b_O_nextByAmount 54 = .ok (.invokevirtual 47, 3) := by decide +kernel
theorem d_O_nextByAmount_57 : decode b_O_nextByAmount 57 = .ok (.ifCond .eq 6, 3) := by decide +kernel
theorem d_O_nextByAmount_60 : decode b_O_nextByAmount 60 = .ok (.iload 4, 2) := by decide +kernel
theorem d_O_nextByAmount_62 : decode b_O_nextByAmount 62 = .ok (.istore_n 3, 1) := by decide +kernel
theorem d_O_nextByAmount_63 : decode b_O_nextByAmount 63 = .ok (.iinc 4 1, 3) := by decide +kernel
theorem d_O_nextByAmount_66 : decode b_O_nextByAmount 66 = .ok (.goto (-61), 3) := by decide +kernel
theorem d_O_nextByAmount_69 : decode b_O_nextByAmount 69 = .ok (.iload_n 3, 1) := by decide +kernel
theorem d_O_nextByAmount_70 : decode b_O_nextByAmount 70 = .ok (.ireturn, 1) := by decide +kernel
theorem d_O_standsAhead_0 : decode b_O_standsAhead 0 = .ok (.aload_n 0, 1) := by decide +kernel
theorem d_O_standsAhead_1 : decode b_O_standsAhead 1 = .ok (.getfield 15, 3) := by decide +kernel
theorem d_O_standsAhead_4 : decode b_O_standsAhead 4 = .ok (.iload_n 1, 1) := by decide +kernel
theorem d_O_standsAhead_5 : decode b_O_standsAhead 5 = .ok (.laload, 1) := by decide +kernel
theorem d_O_standsAhead_6 : decode b_O_standsAhead 6 = .ok (.aload_n 0, 1) := by decide +kernel
theorem d_O_standsAhead_7 : decode b_O_standsAhead 7 = .ok (.getfield 15, 3) := by decide +kernel
theorem d_O_standsAhead_10 : decode b_O_standsAhead 10 = .ok (.iload_n 2, 1) := by decide +kernel
theorem d_O_standsAhead_11 : decode b_O_standsAhead 11 = .ok (.laload, 1) := by decide +kernel
theorem d_O_standsAhead_12 : decode b_O_standsAhead 12 = .ok (.lcmp, 1) := by decide +kernel
theorem d_O_standsAhead_13 : decode b_O_standsAhead 13 = .ok (.ifCond .gt 24, 3) := by decide +kernel
theorem d_O_standsAhead_16 : decode b_O_standsAhead 16 = .ok (.aload_n 0, 1) := by decide +kernel
theorem d_O_standsAhead_17 : decode b_O_standsAhead 17 = .ok (.getfield 15, 3) := by decide +kernel
theorem d_O_standsAhead_20 : decode b_O_standsAhead 20 = .ok (.iload_n 1, 1) := by decide +kernel
theorem d_O_standsAhead_21 : decode b_O_standsAhead 21 = .ok (.laload, 1) := by decide +kernel
theorem d_O_standsAhead_22 : decode b_O_standsAhead 22 = .ok (.aload_n 0, 1) := by decide +kernel
theorem d_O_standsAhead_23 : decode b_O_standsAhead 23 = .ok (.getfield 15, 3) := by decide +kernel
theorem d_O_standsAhead_26 : decode b_O_standsAhead 26 = .ok (.iload_n 2, 1) := by decide +kernel
theorem d_O_standsAhead_27 : decode b_O_standsAhead 27 = .ok (.laload, 1) := by decide +kernel
theorem d_O_standsAhead_28 : decode b_O_standsAhead 28 = .ok (.lcmp, 1) := by decide +kernel
theorem d_O_standsAhead_29 : decode b_O_standsAhead 29 = .ok (.ifCond .ne 12, 3) := by decide +kernel
theorem d_O_standsAhead_32 : decode b_O_standsAhead 32 = .ok (.iload_n 1, 1) := by decide +kernel
theorem d_O_standsAhead_33 : decode b_O_standsAhead 33 = .ok (.iload_n 2, 1) := by decide +kernel
theorem d_O_standsAhead_34 : decode b_O_standsAhead 34 = .ok (.if_icmp .ge 7, 3) := by decide +kernel
theorem d_O_standsAhead_37 : decode b_O_standsAhead 37 = .ok (.iconst 1, 1) := by decide +kernel
theorem d_O_standsAhead_38 : decode b_O_standsAhead 38 = .ok (.goto 4, 3) := by decide +kernel
theorem d_O_standsAhead_41 : decode b_O_standsAhead 41 = .ok (.iconst 0, 1) := by decide +kernel
theorem d_O_standsAhead_42 : decode b_O_standsAhead 42 = .ok (.ireturn, 1) := by decide +kernel
