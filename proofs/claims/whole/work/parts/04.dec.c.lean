theorem d_M_init_0 : decode b_M_init 0 = .ok (.aload_n 0, 1) := by decide +kernel
theorem d_M_init_1 : decode b_M_init 1 = .ok (.invokespecial 1, 3) := by decide +kernel
theorem d_M_init_4 : decode b_M_init 4 = .ok (.aload_n 0, 1) := by decide +kernel
theorem d_M_init_5 : decode b_M_init 5 = .ok (.sipush 2048, 3) := by decide +kernel
theorem d_M_init_8 : decode b_M_init 8 = .ok (.newarray .int, 2) := by decide +kernel
theorem d_M_init_10 : decode b_M_init 10 = .ok (.putfield 7, 3) := by decide +kernel
theorem d_M_init_13 : decode b_M_init 13 = .ok (.aload_n 0, 1) := by decide +kernel
theorem d_M_init_14 : decode b_M_init 14 = .ok (.sipush 2048, 3) := by decide +kernel
theorem d_M_init_17 : decode b_M_init 17 = .ok (.newarray .long, 2) := by decide +kernel
theorem d_M_init_19 : decode b_M_init 19 = .ok (.putfield 13, 3) := by decide +kernel
theorem d_M_init_22 : decode b_M_init 22 = .ok (.aload_n 0, 1) := by decide +kernel
theorem d_M_init_23 : decode b_M_init 23 = .ok (.sipush 2048, 3) := by decide +kernel
theorem d_M_init_26 : decode b_M_init 26 = .ok (.newarray .long, 2) := by decide +kernel
theorem d_M_init_28 : decode b_M_init 28 = .ok (.putfield 17, 3) := by decide +kernel
theorem d_M_init_31 : decode b_M_init 31 = .ok (.aload_n 0, 1) := by decide +kernel
theorem d_M_init_32 : decode b_M_init 32 = .ok (.sipush 2048, 3) := by decide +kernel
theorem d_M_init_35 : decode b_M_init 35 = .ok (.newarray .int, 2) := by decide +kernel
theorem d_M_init_37 : decode b_M_init 37 = .ok (.putfield 20, 3) := by decide +kernel
theorem d_M_init_40 : decode b_M_init 40 = .ok (.aload_n 0, 1) := by decide +kernel
theorem d_M_init_41 : decode b_M_init 41 = .ok (.sipush 2048, 3) := by decide +kernel
theorem d_M_init_44 : decode b_M_init 44 = .ok (.newarray .int, 2) := by decide +kernel
theorem d_M_init_46 : decode b_M_init 46 = .ok (.putfield 23, 3) := by decide +kernel
theorem d_M_init_49 : decode b_M_init 49 = .ok (.aload_n 0, 1) := by decide +kernel
theorem d_M_init_50 : decode b_M_init 50 = .ok (.sipush 25000, 3) := by decide +kernel
theorem d_M_init_53 : decode b_M_init 53 = .ok (.newarray .long, 2) := by decide +kernel
theorem d_M_init_55 : decode b_M_init 55 = .ok (.putfield 26, 3) := by decide +kernel
theorem d_M_init_58 : decode b_M_init 58 = .ok (.aload_n 0, 1) := by decide +kernel
theorem d_M_init_59 : decode b_M_init 59 = .ok (.sipush 25000, 3) := by decide +kernel
theorem d_M_init_62 : decode b_M_init 62 = .ok (.newarray .long, 2) := by decide +kernel
theorem d_M_init_64 : decode b_M_init 64 = .ok (.putfield 29, 3) := by decide +kernel
theorem d_M_init_67 : decode b_M_init 67 = .ok (.aload_n 0, 1) := by decide +kernel
theorem d_M_init_68 : decode b_M_init 68 = .ok (.sipush 25000, 3) := by decide +kernel
theorem d_M_init_71 : decode b_M_init 71 = .ok (.newarray .int, 2) := by decide +kernel
theorem d_M_init_73 : decode b_M_init 73 = .ok (.putfield 32, 3) := by decide +kernel
theorem d_M_init_76 : decode b_M_init 76 = .ok (.aload_n 0, 1) := by decide +kernel
theorem d_M_init_77 : decode b_M_init 77 = .ok (.bipush 16, 2) := by decide +kernel
theorem d_M_init_79 : decode b_M_init 79 = .ok (.newarray .int, 2) := by decide +kernel
theorem d_M_init_81 : decode b_M_init 81 = .ok (.putfield 35, 3) := by decide +kernel
theorem d_M_init_84 : decode b_M_init 84 = .ok (.aload_n 0, 1) := by decide +kernel
theorem d_M_init_85 : decode b_M_init 85 = .ok (.bipush 16, 2) := by decide +kernel
theorem d_M_init_87 : decode b_M_init 87 = .ok (.newarray .int, 2) := by decide +kernel
theorem d_M_init_89 : decode b_M_init 89 = .ok (.putfield 38, 3) := by decide +kernel
theorem d_M_init_92 : decode b_M_init 92 = .ok (.aload_n 0, 1) := by decide +kernel
theorem d_M_init_93 : decode b_M_init 93 = .ok (.bipush 16, 2) := by decide +kernel
theorem d_M_init_95 : decode b_M_init 95 = .ok (.newarray .long, 2) := by decide +kernel
theorem d_M_init_97 : decode b_M_init 97 = .ok (.putfield 41, 3) := by decide +kernel
theorem d_M_init_100 : decode b_M_init 100 = .ok (.aload_n 0, 1) := by decide +kernel
theorem d_M_init_101 : decode b_M_init 101 = .ok (.bipush 16, 2) := by decide +kernel
theorem d_M_init_103 : decode b_M_init 103 = .ok (.newarray .long, 2) := by decide +kernel
theorem d_M_init_105 : decode b_M_init 105 = .ok (.putfield 44, 3) := by decide +kernel
theorem d_M_init_108 : decode b_M_init 108 = .ok (.aload_n 0, 1) := by decide +kernel
theorem d_M_init_109 : decode b_M_init 109 = .ok (.bipush 16, 2) := by decide +kernel
theorem d_M_init_111 : decode b_M_init 111 = .ok (.newarray .int, 2) := by decide +kernel
theorem d_M_init_113 : decode b_M_init 113 = .ok (.putfield 47, 3) := by decide +kernel
theorem d_M_init_116 : decode b_M_init 116 = .ok (.aload_n 0, 1) := by decide +kernel
theorem d_M_init_117 : decode b_M_init 117 = .ok (.iload_n 1, 1) := by decide +kernel
theorem d_M_init_118 : decode b_M_init 118 = .ok (.iconst 1, 1) := by decide +kernel
theorem d_M_init_119 : decode b_M_init 119 = .ok (.if_icmp .ge 7, 3) := by decide +kernel
theorem d_M_init_122 : decode b_M_init 122 = .ok (.iconst 1, 1) := by decide +kernel
theorem d_M_init_123 : decode b_M_init 123 = .ok (.goto 15, 3) := by decide +kernel
theorem d_M_init_126 : decode b_M_init 126 = .ok (.iload_n 1, 1) := by decide +kernel
theorem d_M_init_127 : decode b_M_init 127 = .ok (.bipush 64, 2) := by decide +kernel
theorem d_M_init_129 : decode b_M_init 129 = .ok (.if_icmp .le 8, 3) := by decide +kernel
theorem d_M_init_132 : decode b_M_init 132 = .ok (.bipush 64, 2) := by decide +kernel
theorem d_M_init_134 : decode b_M_init 134 = .ok (.goto 4, 3) := by decide +kernel
theorem d_M_init_137 : decode b_M_init 137 = .ok (.iload_n 1, 1) := by decide +kernel
theorem d_M_init_138 : decode b_M_init 138 = .ok (.putfield 50, 3) := by decide +kernel
theorem d_M_init_141 : decode b_M_init 141 = .ok (.return_, 1) := by decide +kernel
theorem d_M_isMade_0 : decode b_M_isMade 0 = .ok (.iload_n 1, 1) := by decide +kernel
theorem d_M_isMade_1 : decode b_M_isMade 1 = .ok (.ifCond .lt 15, 3) := by decide +kernel
theorem d_M_isMade_4 : decode b_M_isMade 4 = .ok (.iload_n 1, 1) := by decide +kernel
theorem d_M_isMade_5 : decode b_M_isMade 5 = .ok (.aload_n 0, 1) := by decide +kernel
theorem d_M_isMade_6 : decode b_M_isMade 6 = .ok (.getfield 57, 3) := by decide +kernel
theorem d_M_isMade_9 : decode b_M_isMade 9 = .ok (.if_icmp .ge 7, 3) := by decide +kernel
theorem d_M_isMade_12 : decode b_M_isMade 12 = .ok (.iconst 1, 1) := by decide +kernel
theorem d_M_isMade_13 : decode b_M_isMade 13 = .ok (.goto 4, 3) := by decide +kernel
theorem d_M_isMade_16 : decode b_M_isMade 16 = .ok (.iconst 0, 1) := by decide +kernel
theorem d_M_isMade_17 : decode b_M_isMade 17 = .ok (.ireturn, 1) := by decide +kernel
theorem d_M_isLive_0 : decode b_M_isLive 0 = .ok (.aload_n 0, 1) := by decide +kernel
theorem d_M_isLive_1 : decode b_M_isLive 1 = .ok (.iload_n 1, 1) := by decide +kernel
theorem d_M_isLive_2 : decode b_M_isLive 2 = .ok (.invokevirtual 60, 3) := by decide +kernel
theorem d_M_isLive_5 : decode b_M_isLive 5 = .ok (.ifCond .eq 16, 3) := by decide +kernel
theorem d_M_isLive_8 : decode b_M_isLive 8 = .ok (.aload_n 0, 1) := by decide +kernel
theorem d_M_isLive_9 : decode b_M_isLive 9 = .ok (.getfield 23, 3) := by decide +kernel
theorem d_M_isLive_12 : decode b_M_isLive 12 = .ok (.iload_n 1, 1) := by decide +kernel
theorem d_M_isLive_13 : decode b_M_isLive 13 = .ok (.iaload, 1) := by decide +kernel
theorem d_M_isLive_14 : decode b_M_isLive 14 = .ok (.ifCond .ge 7, 3) := by decide +kernel
theorem d_M_isLive_17 : decode b_M_isLive 17 = .ok (.iconst 1, 1) := by decide +kernel
theorem d_M_isLive_18 : decode b_M_isLive 18 = .ok (.goto 4, 3) := by decide +kernel
theorem d_M_isLive_21 : decode b_M_isLive 21 = .ok (.iconst 0, 1) := by decide +kernel
theorem d_M_isLive_22 : decode b_M_isLive 22 = .ok (.ireturn, 1) := by decide +kernel
theorem d_M_isDrafted_0 : decode b_M_isDrafted 0 = .ok (.iconst 0, 1) := by decide +kernel
theorem d_M_isDrafted_1 : decode b_M_isDrafted 1 = .ok (.istore_n 2, 1) := by decide +kernel
theorem d_M_isDrafted_2 : decode b_M_isDrafted 2 = .ok (.iconst 0, 1) := by decide +kernel
theorem d_M_isDrafted_3 : decode b_M_isDrafted 3 = .ok (.istore_n 3, 1) := by decide +kernel
theorem d_M_isDrafted_4 : decode b_M_isDrafted 4 = .ok (.iload_n 3, 1) := by decide +kernel
theorem d_M_isDrafted_5 : decode b_M_isDrafted 5 = .ok (.aload_n 0, 1) := by decide +kernel
theorem d_M_isDrafted_6 : decode b_M_isDrafted 6 = .ok (.getfield 64, 3) := by decide +kernel
theorem d_M_isDrafted_9 : decode b_M_isDrafted 9 = .ok (.if_icmp .ge 29, 3) := by decide +kernel
theorem d_M_isDrafted_12 : decode b_M_isDrafted 12 = .ok (.iload_n 2, 1) := by decide +kernel
theorem d_M_isDrafted_13 : decode b_M_isDrafted 13 = .ok (.ifCond .ne 13, 3) := by decide +kernel
theorem d_M_isDrafted_16 : decode b_M_isDrafted 16 = .ok (.aload_n 0, 1) := by decide +kernel
theorem d_M_isDrafted_17 : decode b_M_isDrafted 17 = .ok (.getfield 35, 3) := by decide +kernel
theorem d_M_isDrafted_20 : decode b_M_isDrafted 20 = .ok (.iload_n 3, 1) := by decide +kernel
theorem d_M_isDrafted_21 : decode b_M_isDrafted 21 = .ok (.iaload, 1) := by decide +kernel
theorem d_M_isDrafted_22 : decode b_M_isDrafted 22 = .ok (.iload_n 1, 1) := by decide +kernel
theorem d_M_isDrafted_23 : decode b_M_isDrafted 23 = .ok (.if_icmp .ne 7, 3) := by decide +kernel
theorem d_M_isDrafted_26 : decode b_M_isDrafted 26 = .ok (.iconst 1, 1) := by decide +kernel
theorem d_M_isDrafted_27 : decode b_M_isDrafted 27 = .ok (.goto 4, 3) := by decide +kernel
theorem d_M_isDrafted_30 : decode b_M_isDrafted 30 = .ok (.iconst 0, 1) := by decide +kernel
theorem d_M_isDrafted_31 : decode b_M_isDrafted 31 = .ok (.istore_n 2, 1) := by decide +kernel
theorem d_M_isDrafted_32 : decode b_M_isDrafted 32 = .ok (.iinc 3 1, 3) := by decide +kernel
theorem d_M_isDrafted_35 : decode b_M_isDrafted 35 = .ok (.goto (-31), 3) := by decide +kernel
theorem d_M_isDrafted_38 : decode b_M_isDrafted 38 = .ok (.iload_n 2, 1) := by decide +kernel
theorem d_M_isDrafted_39 : decode b_M_isDrafted 39 = .ok (.ireturn, 1) := by decide +kernel
theorem d_M_isOwner_0 : decode b_M_isOwner 0 = .ok (.iload_n 0, 1) := by decide +kernel
theorem d_M_isOwner_1 : decode b_M_isOwner 1 = .ok (.ifCond .lt 14, 3) := by decide +kernel
theorem d_M_isOwner_4 : decode b_M_isOwner 4 = .ok (.iload_n 0, 1) := by decide +kernel
theorem d_M_isOwner_5 : decode b_M_isOwner 5 = .ok (.sipush 256, 3) := by decide +kernel
theorem d_M_isOwner_8 : decode b_M_isOwner 8 = .ok (.if_icmp .ge 7, 3) := by decide +kernel
theorem d_M_isOwner_11 : decode b_M_isOwner 11 = .ok (.iconst 1, 1) := by decide +kernel
theorem d_M_isOwner_12 : decode b_M_isOwner 12 = .ok (.goto 4, 3) := by decide +kernel
theorem d_M_isOwner_15 : decode b_M_isOwner 15 = .ok (.iconst 0, 1) := by decide +kernel
theorem d_M_isOwner_16 : decode b_M_isOwner 16 = .ok (.ireturn, 1) := by decide +kernel
theorem d_M_empty_0 : decode b_M_empty 0 = .ok (.aload_n 0, 1) := by decide +kernel
theorem d_M_empty_1 : decode b_M_empty 1 = .ok (.iconst 0, 1) := by decide +kernel
theorem d_M_empty_2 : decode b_M_empty 2 = .ok (.putfield 64, 3) := by decide +kernel
theorem d_M_empty_5 : decode b_M_empty 5 = .ok (.aload_n 0, 1) := by decide +kernel
theorem d_M_empty_6 : decode b_M_empty 6 = .ok (.iconst 0, 1) := by decide +kernel
theorem d_M_empty_7 : decode b_M_empty 7 = .ok (.putfield 67, 3) := by decide +kernel
theorem d_M_empty_10 : decode b_M_empty 10 = .ok (.aload_n 0, 1) := by decide +kernel
theorem d_M_empty_11 : decode b_M_empty 11 = .ok (.lconst 0, 1) := by decide +kernel
theorem d_M_empty_12 : decode b_M_empty 12 = .ok (.putfield 70, 3) := by decide +kernel
theorem d_M_empty_15 : decode b_M_empty 15 = .ok (.return_, 1) := by decide +kernel
theorem d_M_spend_0 : decode b_M_spend 0 = .ok (.aload_n 0, 1) := by decide +kernel
theorem d_M_spend_1 : decode b_M_spend 1 = .ok (.iconst 0, 1) := by decide +kernel
theorem d_M_spend_2 : decode b_M_spend 2 = .ok (.putfield 54, 3) := by decide +kernel
theorem d_M_spend_5 : decode b_M_spend 5 = .ok (.aload_n 0, 1) := by decide +kernel
theorem d_M_spend_6 : decode b_M_spend 6 = .ok (.iload_n 1, 1) := by decide +kernel
theorem d_M_spend_7 : decode b_M_spend 7 = .ok (.invokevirtual 74, 3) := by decide +kernel
theorem d_M_spend_10 : decode b_M_spend 10 = .ok (.ifCond .eq 20, 3) := by decide +kernel
theorem d_M_spend_13 : decode b_M_spend 13 = .ok (.aload_n 0, 1) := by decide +kernel
theorem d_M_spend_14 : decode b_M_spend 14 = .ok (.iload_n 1, 1) := by decide +kernel
theorem d_M_spend_15 : decode b_M_spend 15 = .ok (.invokevirtual 77, 3) := by decide +kernel
theorem d_M_spend_18 : decode b_M_spend 18 = .ok (.ifCond .ne 12, 3) := by decide +kernel
theorem d_M_spend_21 : decode b_M_spend 21 = .ok (.aload_n 0, 1) := by decide +kernel
theorem d_M_spend_22 : decode b_M_spend 22 = .ok (.getfield 64, 3) := by decide +kernel
theorem d_M_spend_25 : decode b_M_spend 25 = .ok (.bipush 16, 2) := by decide +kernel
theorem d_M_spend_27 : decode b_M_spend 27 = .ok (.if_icmp .ne 5, 3) := by decide +kernel
theorem d_M_spend_30 : decode b_M_spend 30 = .ok (.iconst 0, 1) := by decide +kernel
theorem d_M_spend_31 : decode b_M_spend 31 = .ok (.ireturn, 1) := by decide +kernel
theorem d_M_spend_32 : decode b_M_spend 32 = .ok (.aload_n 0, 1) := by decide +kernel
theorem d_M_spend_33 : decode b_M_spend 33 = .ok (.getfield 35, 3) := by decide +kernel
theorem d_M_spend_36 : decode b_M_spend 36 = .ok (.aload_n 0, 1) := by decide +kernel
theorem d_M_spend_37 : decode b_M_spend 37 = .ok (.getfield 64, 3) := by decide +kernel
theorem d_M_spend_40 : decode b_M_spend 40 = .ok (.iload_n 1, 1) := by decide +kernel
theorem d_M_spend_41 : decode b_M_spend 41 = .ok (.iastore, 1) := by decide +kernel
theorem d_M_spend_42 : decode b_M_spend 42 = .ok (.aload_n 0, 1) := by decide +kernel
theorem d_M_spend_43 : decode b_M_spend 43 = .ok (.dup, 1) := by decide +kernel
theorem d_M_spend_44 : decode b_M_spend 44 = .ok (.getfield 64, 3) := by decide +kernel
theorem d_M_spend_47 : decode b_M_spend 47 = .ok (.iconst 1, 1) := by decide +kernel
theorem d_M_spend_48 : decode b_M_spend 48 = .ok (.iadd, 1) := by decide +kernel
theorem d_M_spend_49 : decode b_M_spend 49 = .ok (.putfield 64, 3) := by decide +kernel
theorem d_M_spend_52 : decode b_M_spend 52 = .ok (.iconst 1, 1) := by decide +kernel
theorem d_M_spend_53 : decode b_M_spend 53 = .ok (.ireturn, 1) := by decide +kernel
theorem d_M_make_0 : decode b_M_make 0 = .ok (.aload_n 0, 1) := by decide +kernel
theorem d_M_make_1 : decode b_M_make 1 = .ok (.iconst 0, 1) := by decide +kernel
theorem d_M_make_2 : decode b_M_make 2 = .ok (.putfield 54, 3) := by decide +kernel
theorem d_M_make_5 : decode b_M_make 5 = .ok (.iload_n 1, 1) := by decide +kernel
theorem d_M_make_6 : decode b_M_make 6 = .ok (.invokestatic 80, 3) := by decide +kernel
theorem d_M_make_9 : decode b_M_make 9 = .ok (.ifCond .eq 18, 3) := by decide +kernel
theorem d_M_make_12 : decode b_M_make 12 = .ok (.lload_n 2, 1) := by decide +kernel
theorem d_M_make_13 : decode b_M_make 13 = .ok (.lconst 1, 1) := by decide +kernel
theorem d_M_make_14 : decode b_M_make 14 = .ok (.lcmp, 1) := by decide +kernel
theorem d_M_make_15 : decode b_M_make 15 = .ok (.ifCond .lt 12, 3) := by decide +kernel
theorem d_M_make_18 : decode b_M_make 18 = .ok (.aload_n 0, 1) := by decide +kernel
theorem d_M_make_19 : decode b_M_make 19 = .ok (.getfield 67, 3) := by decide +kernel
theorem d_M_make_22 : decode b_M_make 22 = .ok (.bipush 16, 2) := by decide +kernel
theorem d_M_make_24 : decode b_M_make 24 = .ok (.if_icmp .ne 5, 3) := by decide +kernel
theorem d_M_make_27 : decode b_M_make 27 = .ok (.iconst 0, 1) := by decide +kernel
theorem d_M_make_28 : decode b_M_make 28 = .ok (.ireturn, 1) := by decide +kernel
theorem d_M_make_29 : decode b_M_make 29 = .ok (.aload_n 0, 1) := by decide +kernel
theorem d_M_make_30 : decode b_M_make 30 = .ok (.getfield 38, 3) := by decide +kernel
theorem d_M_make_33 : decode b_M_make 33 = .ok (.aload_n 0, 1) := by decide +kernel
theorem d_M_make_34 : decode b_M_make 34 = .ok (.getfield 67, 3) := by decide +kernel
theorem d_M_make_37 : decode b_M_make 37 = .ok (.iload_n 1, 1) := by decide +kernel
theorem d_M_make_38 : decode b_M_make 38 = .ok (.iastore, 1) := by decide +kernel
theorem d_M_make_39 : decode b_M_make 39 = .ok (.aload_n 0, 1) := by decide +kernel
theorem d_M_make_40 : decode b_M_make 40 = .ok (.getfield 41, 3) := by decide +kernel
theorem d_M_make_43 : decode b_M_make 43 = .ok (.aload_n 0, 1) := by decide +kernel
theorem d_M_make_44 : decode b_M_make 44 = .ok (.getfield 67, 3) := by decide +kernel
theorem d_M_make_47 : decode b_M_make 47 = .ok (.lload_n 2, 1) := by decide +kernel
theorem d_M_make_48 : decode b_M_make 48 = .ok (.lastore, 1) := by decide +kernel
theorem d_M_make_49 : decode b_M_make 49 = .ok (.aload_n 0, 1) := by decide +kernel
theorem d_M_make_50 : decode b_M_make 50 = .ok (.getfield 44, 3) := by decide +kernel
theorem d_M_make_53 : decode b_M_make 53 = .ok (.aload_n 0, 1) := by decide +kernel
theorem d_M_make_54 : decode b_M_make 54 = .ok (.getfield 67, 3) := by decide +kernel
theorem d_M_make_57 : decode b_M_make 57 = .ok (.lload 4, 2) := by decide +kernel
theorem d_M_make_59 : decode b_M_make 59 = .ok (.lastore, 1) := by decide +kernel
theorem d_M_make_60 : decode b_M_make 60 = .ok (.aload_n 0, 1) := by decide +kernel
theorem d_M_make_61 : decode b_M_make 61 = .ok (.dup, 1) := by decide +kernel
theorem d_M_make_62 : decode b_M_make 62 = .ok (.getfield 67, 3) := by decide +kernel
theorem d_M_make_65 : decode b_M_make 65 = .ok (.iconst 1, 1) := by decide +kernel
theorem d_M_make_66 : decode b_M_make 66 = .ok (.iadd, 1) := by decide +kernel
theorem d_M_make_67 : decode b_M_make 67 = .ok (.putfield 67, 3) := by decide +kernel
theorem d_M_make_70 : decode b_M_make 70 = .ok (.iconst 1, 1) := by decide +kernel
theorem d_M_make_71 : decode b_M_make 71 = .ok (.ireturn, 1) := by decide +kernel
theorem d_M_mint_0 : decode b_M_mint 0 = .ok (.aload_n 0, 1) := by decide +kernel
theorem d_M_mint_1 : decode b_M_mint 1 = .ok (.iconst 0, 1) := by decide +kernel
theorem d_M_mint_2 : decode b_M_mint 2 = .ok (.putfield 54, 3) := by decide +kernel
theorem d_M_mint_5 : decode b_M_mint 5 = .ok (.aload_n 0, 1) := by decide +kernel
theorem d_M_mint_6 : decode b_M_mint 6 = .ok (.lload_n 1, 1) := by decide +kernel
theorem d_M_mint_7 : decode b_M_mint 7 = .ok (.putfield 70, 3) := by decide +kernel
theorem d_M_mint_10 : decode b_M_mint 10 = .ok (.return_, 1) := by decide +kernel
theorem d_M_drop_0 : decode b_M_drop 0 = .ok (.aload_n 0, 1) := by decide +kernel
theorem d_M_drop_1 : decode b_M_drop 1 = .ok (.iconst 0, 1) := by decide +kernel
theorem d_M_drop_2 : decode b_M_drop 2 = .ok (.putfield 54, 3) := by decide +kernel
theorem d_M_drop_5 : decode b_M_drop 5 = .ok (.aload_n 0, 1) := by decide +kernel
theorem d_M_drop_6 : decode b_M_drop 6 = .ok (.invokevirtual 83, 3) := by decide +kernel
theorem d_M_drop_9 : decode b_M_drop 9 = .ok (.return_, 1) := by decide +kernel
theorem d_M_apply_0 : decode b_M_apply 0 = .ok (.aload_n 0, 1) := by decide +kernel
theorem d_M_apply_1 : decode b_M_apply 1 = .ok (.iconst 0, 1) := by decide +kernel
theorem d_M_apply_2 : decode b_M_apply 2 = .ok (.putfield 54, 3) := by decide +kernel
theorem d_M_apply_5 : decode b_M_apply 5 = .ok (.aload_n 0, 1) := by decide +kernel
theorem d_M_apply_6 : decode b_M_apply 6 = .ok (.getfield 64, 3) := by decide +kernel
theorem d_M_apply_9 : decode b_M_apply 9 = .ok (.ifCond .ne 14, 3) := by decide +kernel
theorem d_M_apply_12 : decode b_M_apply 12 = .ok (.aload_n 0, 1) := by decide +kernel
theorem d_M_apply_13 : decode b_M_apply 13 = .ok (.getfield 67, 3) := by decide +kernel
theorem d_M_apply_16 : decode b_M_apply 16 = .ok (.ifCond .ne 7, 3) := by decide +kernel
theorem d_M_apply_19 : decode b_M_apply 19 = .ok (.ldc2_w 86, 3) := by decide +kernel
theorem d_M_apply_22 : decode b_M_apply 22 = .ok (.lreturn, 1) := by decide +kernel
theorem d_M_apply_23 : decode b_M_apply 23 = .ok (.aload_n 0, 1) := by decide +kernel
theorem d_M_apply_24 : decode b_M_apply 24 = .ok (.getfield 70, 3) := by decide +kernel
theorem d_M_apply_27 : decode b_M_apply 27 = .ok (.ldc2_w 88, 3) := by decide +kernel
theorem d_M_apply_30 : decode b_M_apply 30 = .ok (.aload_n 0, 1) := by decide +kernel
theorem d_M_apply_31 : decode b_M_apply 31 = .ok (.getfield 90, 3) := by decide +kernel
theorem d_M_apply_34 : decode b_M_apply 34 = .ok (.lsub, 1) := by decide +kernel
theorem d_M_apply_35 : decode b_M_apply 35 = .ok (.lcmp, 1) := by decide +kernel
theorem d_M_apply_36 : decode b_M_apply 36 = .ok (.ifCond .gt 16, 3) := by decide +kernel
theorem d_M_apply_39 : decode b_M_apply 39 = .ok (.aload_n 0, 1) := by decide +kernel
theorem d_M_apply_40 : decode b_M_apply 40 = .ok (.getfield 70, 3) := by decide +kernel
theorem d_M_apply_43 : decode b_M_apply 43 = .ok (.aload_n 0, 1) := by decide +kernel
theorem d_M_apply_44 : decode b_M_apply 44 = .ok (.getfield 90, 3) := by decide +kernel
theorem d_M_apply_47 : decode b_M_apply 47 = .ok (.lneg, 1) := by decide +kernel
theorem d_M_apply_48 : decode b_M_apply 48 = .ok (.lcmp, 1) := by decide +kernel
theorem d_M_apply_49 : decode b_M_apply 49 = .ok (.ifCond .ge 7, 3) := by decide +kernel
theorem d_M_apply_52 : decode b_M_apply 52 = .ok (.ldc2_w 93, 3) := by decide +kernel
theorem d_M_apply_55 : decode b_M_apply 55 = .ok (.lreturn, 1) := by decide +kernel
theorem d_M_apply_56 : decode b_M_apply 56 = .ok (.aload_n 0, 1) := by decide +kernel
theorem d_M_apply_57 : decode b_M_apply 57 = .ok (.getfield 70, 3) := by decide +kernel
theorem d_M_apply_60 : decode b_M_apply 60 = .ok (.lstore_n 1, 1) := by decide +kernel
theorem d_M_apply_61 : decode b_M_apply 61 = .ok (.iconst 0, 1) := by decide +kernel
theorem d_M_apply_62 : decode b_M_apply 62 = .ok (.istore_n 3, 1) := by decide +kernel
theorem d_M_apply_63 : decode b_M_apply 63 = .ok (.iload_n 3, 1) := by decide +kernel
theorem d_M_apply_64 : decode b_M_apply 64 = .ok (.aload_n 0, 1) := by decide +kernel
theorem d_M_apply_65 : decode b_M_apply 65 = .ok (.getfield 64, 3) := by decide +kernel
theorem d_M_apply_68 : decode b_M_apply 68 = .ok (.if_icmp .ge 23, 3) := by decide +kernel
theorem d_M_apply_71 : decode b_M_apply 71 = .ok (.lload_n 1, 1) := by decide +kernel
theorem d_M_apply_72 : decode b_M_apply 72 = .ok (.aload_n 0, 1) := by decide +kernel
theorem d_M_apply_73 : decode b_M_apply 73 = .ok (.getfield 13, 3) := by decide +kernel
theorem d_M_apply_76 : decode b_M_apply 76 = .ok (.aload_n 0, 1) := by decide +kernel
theorem d_M_apply_77 : decode b_M_apply 77 = .ok (.getfield 35, 3) := by decide +kernel
theorem d_M_apply_80 : decode b_M_apply 80 = .ok (.iload_n 3, 1) := by decide +kernel
theorem d_M_apply_81 : decode b_M_apply 81 = .ok (.iaload, 1) := by decide +kernel
theorem d_M_apply_82 : decode b_M_apply 82 = .ok (.laload, 1) := by decide +kernel
theorem d_M_apply_83 : decode b_M_apply 83 = .ok (.ladd, 1) := by decide +kernel
theorem d_M_apply_84 : decode b_M_apply 84 = .ok (.lstore_n 1, 1) := by decide +kernel
theorem d_M_apply_85 : decode b_M_apply 85 = .ok (.iinc 3 1, 3) := by decide +kernel
theorem d_M_apply_88 : decode b_M_apply 88 = .ok (.goto (-25), 3) := by decide +kernel
theorem d_M_apply_91 : decode b_M_apply 91 = .ok (.iconst 0, 1) := by decide +kernel
theorem d_M_apply_92 : decode b_M_apply 92 = .ok (.istore_n 3, 1) := by decide +kernel
theorem d_M_apply_93 : decode b_M_apply 93 = .ok (.iload_n 3, 1) := by decide +kernel
theorem d_M_apply_94 : decode b_M_apply 94 = .ok (.aload_n 0, 1) := by decide +kernel
theorem d_M_apply_95 : decode b_M_apply 95 = .ok (.getfield 67, 3) := by decide +kernel
theorem d_M_apply_98 : decode b_M_apply 98 = .ok (.if_icmp .ge 33, 3) := by decide +kernel
theorem d_M_apply_101 : decode b_M_apply 101 = .ok (.aload_n 0, 1) := by decide +kernel
theorem d_M_apply_102 : decode b_M_apply 102 = .ok (.getfield 41, 3) := by decide +kernel
theorem d_M_apply_105 : decode b_M_apply 105 = .ok (.iload_n 3, 1) := by decide +kernel
theorem d_M_apply_106 : decode b_M_apply 106 = .ok (.laload, 1) := by decide +kernel
theorem d_M_apply_107 : decode b_M_apply 107 = .ok (.lload_n 1, 1) := by decide +kernel
theorem d_M_apply_108 : decode b_M_apply 108 = .ok (.lcmp, 1) := by decide +kernel
theorem d_M_apply_109 : decode b_M_apply 109 = .ok (.ifCond .le 7, 3) := by decide +kernel
theorem d_M_apply_112 : decode b_M_apply 112 = .ok (.ldc2_w 93, 3) := by decide +kernel
theorem d_M_apply_115 : decode b_M_apply 115 = .ok (.lreturn, 1) := by decide +kernel
theorem d_M_apply_116 : decode b_M_apply 116 = .ok (.lload_n 1, 1) := by decide +kernel
theorem d_M_apply_117 : decode b_M_apply 117 = .ok (.aload_n 0, 1) := by decide +kernel
theorem d_M_apply_118 : decode b_M_apply 118 = .ok (.getfield 41, 3) := by decide +kernel
theorem d_M_apply_121 : decode b_M_apply 121 = .ok (.iload_n 3, 1) := by decide +kernel
theorem d_M_apply_122 : decode b_M_apply 122 = .ok (.laload, 1) := by decide +kernel
theorem d_M_apply_123 : decode b_M_apply 123 = .ok (.lsub, 1) := by decide +kernel
theorem d_M_apply_124 : decode b_M_apply 124 = .ok (.lstore_n 1, 1) := by decide +kernel
theorem d_M_apply_125 : decode b_M_apply 125 = .ok (.iinc 3 1, 3) := by decide +kernel
theorem d_M_apply_128 : decode b_M_apply 128 = .ok (.goto (-35), 3) := by decide +kernel
theorem d_M_apply_131 : decode b_M_apply 131 = .ok (.lload_n 1, 1) := by decide +kernel
theorem d_M_apply_132 : decode b_M_apply 132 = .ok (.lconst 0, 1) := by decide +kernel
theorem d_M_apply_133 : decode b_M_apply 133 = .ok (.lcmp, 1) := by decide +kernel
theorem d_M_apply_134 : decode b_M_apply 134 = .ok (.ifCond .ge 7, 3) := by decide +kernel
theorem d_M_apply_137 : decode b_M_apply 137 = .ok (.ldc2_w 93, 3) := by decide +kernel
theorem d_M_apply_140 : decode b_M_apply 140 = .ok (.lreturn, 1) := by decide +kernel
theorem d_M_apply_141 : decode b_M_apply 141 = .ok (.aload_n 0, 1) := by decide +kernel
theorem d_M_apply_142 : decode b_M_apply 142 = .ok (.getfield 57, 3) := by decide +kernel
theorem d_M_apply_145 : decode b_M_apply 145 = .ok (.aload_n 0, 1) := by decide +kernel
theorem d_M_apply_146 : decode b_M_apply 146 = .ok (.getfield 67, 3) := by decide +kernel
theorem d_M_apply_149 : decode b_M_apply 149 = .ok (.iadd, 1) := by decide +kernel
theorem d_M_apply_150 : decode b_M_apply 150 = .ok (.sipush 2048, 3) := by decide +kernel
theorem d_M_apply_153 : decode b_M_apply 153 = .ok (.if_icmp .le 7, 3) := by decide +kernel
theorem d_M_apply_156 : decode b_M_apply 156 = .ok (.ldc2_w 95, 3) := by decide +kernel
theorem d_M_apply_159 : decode b_M_apply 159 = .ok (.lreturn, 1) := by decide +kernel
theorem d_M_apply_160 : decode b_M_apply 160 = .ok (.iconst 0, 1) := by decide +kernel
theorem d_M_apply_161 : decode b_M_apply 161 = .ok (.istore_n 3, 1) := by decide +kernel
theorem d_M_apply_162 : decode b_M_apply 162 = .ok (.iload_n 3, 1) := by decide +kernel
theorem d_M_apply_163 : decode b_M_apply 163 = .ok (.aload_n 0, 1) := by decide +kernel
theorem d_M_apply_164 : decode b_M_apply 164 = .ok (.getfield 64, 3) := by decide +kernel
theorem d_M_apply_167 : decode b_M_apply 167 = .ok (.if_icmp .ge 24, 3) := by decide +kernel
theorem d_M_apply_170 : decode b_M_apply 170 = .ok (.aload_n 0, 1) := by decide +kernel
theorem d_M_apply_171 : decode b_M_apply 171 = .ok (.getfield 23, 3) := by decide +kernel
theorem d_M_apply_174 : decode b_M_apply 174 = .ok (.aload_n 0, 1) := by decide +kernel
theorem d_M_apply_175 : decode b_M_apply 175 = .ok (.getfield 35, 3) := by decide +kernel
theorem d_M_apply_178 : decode b_M_apply 178 = .ok (.iload_n 3, 1) := by decide +kernel
theorem d_M_apply_179 : decode b_M_apply 179 = .ok (.iaload, 1) := by decide +kernel
theorem d_M_apply_180 : decode b_M_apply 180 = .ok (.aload_n 0, 1) := by decide +kernel
theorem d_M_apply_181 : decode b_M_apply 181 = .ok (.getfield 97, 3) := by decide +kernel
theorem d_M_apply_184 : decode b_M_apply 184 = .ok (.iastore, 1) := by decide +kernel
theorem d_M_apply_185 : decode b_M_apply 185 = .ok (.iinc 3 1, 3) := by decide +kernel
theorem d_M_apply_188 : decode b_M_apply 188 = .ok (.goto (-26), 3) := by decide +kernel
theorem d_M_apply_191 : decode b_M_apply 191 = .ok (.iconst 0, 1) := by decide +kernel
theorem d_M_apply_192 : decode b_M_apply 192 = .ok (.istore_n 3, 1) := by decide +kernel
theorem d_M_apply_193 : decode b_M_apply 193 = .ok (.iload_n 3, 1) := by decide +kernel
theorem d_M_apply_194 : decode b_M_apply 194 = .ok (.aload_n 0, 1) := by decide +kernel
theorem d_M_apply_195 : decode b_M_apply 195 = .ok (.getfield 67, 3) := by decide +kernel
theorem d_M_apply_198 : decode b_M_apply 198 = .ok (.if_icmp .ge 87, 3) := by decide +kernel
theorem d_M_apply_201 : decode b_M_apply 201 = .ok (.aload_n 0, 1) := by decide +kernel
theorem d_M_apply_202 : decode b_M_apply 202 = .ok (.getfield 7, 3) := by decide +kernel
theorem d_M_apply_205 : decode b_M_apply 205 = .ok (.aload_n 0, 1) := by decide +kernel
theorem d_M_apply_206 : decode b_M_apply 206 = .ok (.getfield 57, 3) := by decide +kernel
theorem d_M_apply_209 : decode b_M_apply 209 = .ok (.aload_n 0, 1) := by decide +kernel
theorem d_M_apply_210 : decode b_M_apply 210 = .ok (.getfield 38, 3) := by decide +kernel
theorem d_M_apply_213 : decode b_M_apply 213 = .ok (.iload_n 3, 1) := by decide +kernel
theorem d_M_apply_214 : decode b_M_apply 214 = .ok (.iaload, 1) := by decide +kernel
theorem d_M_apply_215 : decode b_M_apply 215 = .ok (.iastore, 1) := by decide +kernel
theorem d_M_apply_216 : decode b_M_apply 216 = .ok (.aload_n 0, 1) := by decide +kernel
theorem d_M_apply_217 : decode b_M_apply 217 = .ok (.getfield 13, 3) := by decide +kernel
theorem d_M_apply_220 : decode b_M_apply 220 = .ok (.aload_n 0, 1) := by decide +kernel
theorem d_M_apply_221 : decode b_M_apply 221 = .ok (.getfield 57, 3) := by decide +kernel
theorem d_M_apply_224 : decode b_M_apply 224 = .ok (.aload_n 0, 1) := by decide +kernel
theorem d_M_apply_225 : decode b_M_apply 225 = .ok (.getfield 41, 3) := by decide +kernel
theorem d_M_apply_228 : decode b_M_apply 228 = .ok (.iload_n 3, 1) := by decide +kernel
theorem d_M_apply_229 : decode b_M_apply 229 = .ok (.laload, 1) := by decide +kernel
theorem d_M_apply_230 : decode b_M_apply 230 = .ok (.lastore, 1) := by decide +kernel
theorem d_M_apply_231 : decode b_M_apply 231 = .ok (.aload_n 0, 1) := by decide +kernel
theorem d_M_apply_232 : decode b_M_apply 232 = .ok (.getfield 17, 3) := by decide +kernel
theorem d_M_apply_235 : decode b_M_apply 235 = .ok (.aload_n 0, 1) := by decide +kernel
theorem d_M_apply_236 : decode b_M_apply 236 = .ok (.getfield 57, 3) := by decide +kernel
theorem d_M_apply_239 : decode b_M_apply 239 = .ok (.aload_n 0, 1) := by decide +kernel
theorem d_M_apply_240 : decode b_M_apply 240 = .ok (.getfield 44, 3) := by decide +kernel
theorem d_M_apply_243 : decode b_M_apply 243 = .ok (.iload_n 3, 1) := by decide +kernel
theorem d_M_apply_244 : decode b_M_apply 244 = .ok (.laload, 1) := by decide +kernel
theorem d_M_apply_245 : decode b_M_apply 245 = .ok (.lastore, 1) := by decide +kernel
theorem d_M_apply_246 : decode b_M_apply 246 = .ok (.aload_n 0, 1) := by decide +kernel
theorem d_M_apply_247 : decode b_M_apply 247 = .ok (.getfield 20, 3) := by decide +kernel
theorem d_M_apply_250 : decode b_M_apply 250 = .ok (.aload_n 0, 1) := by decide +kernel
theorem d_M_apply_251 : decode b_M_apply 251 = .ok (.getfield 57, 3) := by decide +kernel
theorem d_M_apply_254 : decode b_M_apply 254 = .ok (.aload_n 0, 1) := by decide +kernel
theorem d_M_apply_255 : decode b_M_apply 255 = .ok (.getfield 97, 3) := by decide +kernel
theorem d_M_apply_258 : decode b_M_apply 258 = .ok (.iastore, 1) := by decide +kernel
theorem d_M_apply_259 : decode b_M_apply 259 = .ok (.aload_n 0, 1) := by decide +kernel
theorem d_M_apply_260 : decode b_M_apply 260 = .ok (.getfield 23, 3) := by decide +kernel
theorem d_M_apply_263 : decode b_M_apply 263 = .ok (.aload_n 0, 1) := by decide +kernel
theorem d_M_apply_264 : decode b_M_apply 264 = .ok (.getfield 57, 3) := by decide +kernel
theorem d_M_apply_267 : decode b_M_apply 267 = .ok (.iconst (-1), 1) := by decide +kernel
theorem d_M_apply_268 : decode b_M_apply 268 = .ok (.iastore, 1) := by decide +kernel
theorem d_M_apply_269 : decode b_M_apply 269 = .ok (.aload_n 0, 1) := by decide +kernel
theorem d_M_apply_270 : decode b_M_apply 270 = .ok (.dup, 1) := by decide +kernel
theorem d_M_apply_271 : decode b_M_apply 271 = .ok (.getfield 57, 3) := by decide +kernel
theorem d_M_apply_274 : decode b_M_apply 274 = .ok (.iconst 1, 1) := by decide +kernel
theorem d_M_apply_275 : decode b_M_apply 275 = .ok (.iadd, 1) := by decide +kernel
theorem d_M_apply_276 : decode b_M_apply 276 = .ok (.putfield 57, 3) := by decide +kernel
theorem d_M_apply_279 : decode b_M_apply 279 = .ok (.iinc 3 1, 3) := by decide +kernel
theorem d_M_apply_282 : decode b_M_apply 282 = .ok (.goto (-89), 3) := by decide +kernel
theorem d_M_apply_285 : decode b_M_apply 285 = .ok (.aload_n 0, 1) := by decide +kernel
theorem d_M_apply_286 : decode b_M_apply 286 = .ok (.dup, 1) := by decide +kernel
theorem d_M_apply_287 : decode b_M_apply 287 = .ok (.getfield 100, 3) := by decide +kernel
theorem d_M_apply_290 : decode b_M_apply 290 = .ok (.lload_n 1, 1) := by decide +kernel
theorem d_M_apply_291 : decode b_M_apply 291 = .ok (.ladd, 1) := by decide +kernel
theorem d_M_apply_292 : decode b_M_apply 292 = .ok (.putfield 100, 3) := by decide +kernel
theorem d_M_apply_295 : decode b_M_apply 295 = .ok (.aload_n 0, 1) := by decide +kernel
theorem d_M_apply_296 : decode b_M_apply 296 = .ok (.dup, 1) := by decide +kernel
theorem d_M_apply_297 : decode b_M_apply 297 = .ok (.getfield 90, 3) := by decide +kernel
theorem d_M_apply_300 : decode b_M_apply 300 = .ok (.aload_n 0, 1) := by decide +kernel
theorem d_M_apply_301 : decode b_M_apply 301 = .ok (.getfield 70, 3) := by decide +kernel
theorem d_M_apply_304 : decode b_M_apply 304 = .ok (.ladd, 1) := by decide +kernel
theorem d_M_apply_305 : decode b_M_apply 305 = .ok (.putfield 90, 3) := by decide +kernel
theorem d_M_apply_308 : decode b_M_apply 308 = .ok (.aload_n 0, 1) := by decide +kernel
theorem d_M_apply_309 : decode b_M_apply 309 = .ok (.dup, 1) := by decide +kernel
theorem d_M_apply_310 : decode b_M_apply 310 = .ok (.getfield 103, 3) := by decide +kernel
theorem d_M_apply_313 : decode b_M_apply 313 = .ok (.iconst 1, 1) := by decide +kernel
theorem d_M_apply_314 : decode b_M_apply 314 = .ok (.iadd, 1) := by decide +kernel
theorem d_M_apply_315 : decode b_M_apply 315 = .ok (.putfield 103, 3) := by decide +kernel
theorem d_M_apply_318 : decode b_M_apply 318 = .ok (.aload_n 0, 1) := by decide +kernel
theorem d_M_apply_319 : decode b_M_apply 319 = .ok (.getfield 26, 3) := by decide +kernel
theorem d_M_apply_322 : decode b_M_apply 322 = .ok (.aload_n 0, 1) := by decide +kernel
theorem d_M_apply_323 : decode b_M_apply 323 = .ok (.getfield 97, 3) := by decide +kernel
theorem d_M_apply_326 : decode b_M_apply 326 = .ok (.dup2, 1) := by decide +kernel
theorem d_M_apply_327 : decode b_M_apply 327 = .ok (.laload, 1) := by decide +kernel
theorem d_M_apply_328 : decode b_M_apply 328 = .ok (.lload_n 1, 1) := by decide +kernel
theorem d_M_apply_329 : decode b_M_apply 329 = .ok (.ladd, 1) := by decide +kernel
theorem d_M_apply_330 : decode b_M_apply 330 = .ok (.lastore, 1) := by decide +kernel
theorem d_M_apply_331 : decode b_M_apply 331 = .ok (.aload_n 0, 1) := by decide +kernel
theorem d_M_apply_332 : decode b_M_apply 332 = .ok (.getfield 29, 3) := by decide +kernel
theorem d_M_apply_335 : decode b_M_apply 335 = .ok (.aload_n 0, 1) := by decide +kernel
theorem d_M_apply_336 : decode b_M_apply 336 = .ok (.getfield 97, 3) := by decide +kernel
theorem d_M_apply_339 : decode b_M_apply 339 = .ok (.dup2, 1) := by decide +kernel
theorem d_M_apply_340 : decode b_M_apply 340 = .ok (.laload, 1) := by decide +kernel
theorem d_M_apply_341 : decode b_M_apply 341 = .ok (.aload_n 0, 1) := by decide +kernel
theorem d_M_apply_342 : decode b_M_apply 342 = .ok (.getfield 70, 3) := by decide +kernel
theorem d_M_apply_345 : decode b_M_apply 345 = .ok (.ladd, 1) := by decide +kernel
theorem d_M_apply_346 : decode b_M_apply 346 = .ok (.lastore, 1) := by decide +kernel
theorem d_M_apply_347 : decode b_M_apply 347 = .ok (.aload_n 0, 1) := by decide +kernel
theorem d_M_apply_348 : decode b_M_apply 348 = .ok (.getfield 32, 3) := by decide +kernel
theorem d_M_apply_351 : decode b_M_apply 351 = .ok (.aload_n 0, 1) := by decide +kernel
theorem d_M_apply_352 : decode b_M_apply 352 = .ok (.getfield 97, 3) := by decide +kernel
theorem d_M_apply_355 : decode b_M_apply 355 = .ok (.dup2, 1) := by decide +kernel
theorem d_M_apply_356 : decode b_M_apply 356 = .ok (.iaload, 1) := by decide +kernel
theorem d_M_apply_357 : decode b_M_apply 357 = .ok (.iconst 1, 1) := by decide +kernel
theorem d_M_apply_358 : decode b_M_apply 358 = .ok (.iadd, 1) := by decide +kernel
theorem d_M_apply_359 : decode b_M_apply 359 = .ok (.iastore, 1) := by decide +kernel
theorem d_M_apply_360 : decode b_M_apply 360 = .ok (.aload_n 0, 1) := by decide +kernel
theorem d_M_apply_361 : decode b_M_apply 361 = .ok (.invokevirtual 83, 3) := by decide +kernel
theorem d_M_apply_364 : decode b_M_apply 364 = .ok (.lload_n 1, 1) := by decide +kernel
theorem d_M_apply_365 : decode b_M_apply 365 = .ok (.lreturn, 1) := by decide +kernel
theorem d_M_close_0 : decode b_M_close 0 = .ok (.aload_n 0, 1) := by decide +kernel
theorem d_M_close_1 : decode b_M_close 1 = .ok (.iconst 0, 1) := by decide +kernel
theorem d_M_close_2 : decode b_M_close 2 = .ok (.putfield 54, 3) := by decide +kernel
theorem d_M_close_5 : decode b_M_close 5 = .ok (.aload_n 0, 1) := by decide +kernel
theorem d_M_close_6 : decode b_M_close 6 = .ok (.dup, 1) := by decide +kernel
theorem d_M_close_7 : decode b_M_close 7 = .ok (.getfield 97, 3) := by decide +kernel
theorem d_M_close_10 : decode b_M_close 10 = .ok (.iconst 1, 1) := by decide +kernel
theorem d_M_close_11 : decode b_M_close 11 = .ok (.iadd, 1) := by decide +kernel
theorem d_M_close_12 : decode b_M_close 12 = .ok (.putfield 97, 3) := by decide +kernel
theorem d_M_close_15 : decode b_M_close 15 = .ok (.aload_n 0, 1) := by decide +kernel
theorem d_M_close_16 : decode b_M_close 16 = .ok (.getfield 26, 3) := by decide +kernel
theorem d_M_close_19 : decode b_M_close 19 = .ok (.aload_n 0, 1) := by decide +kernel
theorem d_M_close_20 : decode b_M_close 20 = .ok (.getfield 97, 3) := by decide +kernel
theorem d_M_close_23 : decode b_M_close 23 = .ok (.lconst 0, 1) := by decide +kernel
theorem d_M_close_24 : decode b_M_close 24 = .ok (.lastore, 1) := by decide +kernel
theorem d_M_close_25 : decode b_M_close 25 = .ok (.aload_n 0, 1) := by decide +kernel
theorem d_M_close_26 : decode b_M_close 26 = .ok (.getfield 29, 3) := by decide +kernel
theorem d_M_close_29 : decode b_M_close 29 = .ok (.aload_n 0, 1) := by decide +kernel
theorem d_M_close_30 : decode b_M_close 30 = .ok (.getfield 97, 3) := by decide +kernel
theorem d_M_close_33 : decode b_M_close 33 = .ok (.lconst 0, 1) := by decide +kernel
theorem d_M_close_34 : decode b_M_close 34 = .ok (.lastore, 1) := by decide +kernel
theorem d_M_close_35 : decode b_M_close 35 = .ok (.aload_n 0, 1) := by decide +kernel
theorem d_M_close_36 : decode b_M_close 36 = .ok (.getfield 32, 3) := by decide +kernel
theorem d_M_close_39 : decode b_M_close 39 = .ok (.aload_n 0, 1) := by decide +kernel
theorem d_M_close_40 : decode b_M_close 40 = .ok (.getfield 97, 3) := by decide +kernel
theorem d_M_close_43 : decode b_M_close 43 = .ok (.iconst 0, 1) := by decide +kernel
theorem d_M_close_44 : decode b_M_close 44 = .ok (.iastore, 1) := by decide +kernel
theorem d_M_close_45 : decode b_M_close 45 = .ok (.aload_n 0, 1) := by decide +kernel
theorem d_M_close_46 : decode b_M_close 46 = .ok (.aload_n 0, 1) := by decide +kernel
theorem d_M_close_47 : decode b_M_close 47 = .ok (.getfield 106, 3) := by decide +kernel
theorem d_M_close_50 : decode b_M_close 50 = .ok (.aload_n 0, 1) := by decide +kernel
theorem d_M_close_51 : decode b_M_close 51 = .ok (.getfield 50, 3) := by decide +kernel
theorem d_M_close_54 : decode b_M_close 54 = .ok (.if_icmp .ne 10, 3) := by decide +kernel
theorem d_M_close_57 : decode b_M_close 57 = .ok (.aload_n 0, 1) := by decide +kernel
theorem d_M_close_58 : decode b_M_close 58 = .ok (.getfield 50, 3) := by decide +kernel
theorem d_M_close_61 : decode b_M_close 61 = .ok (.goto 9, 3) := by decide +kernel
theorem d_M_close_64 : decode b_M_close 64 = .ok (.aload_n 0, 1) := by decide +kernel
theorem d_M_close_65 : decode b_M_close 65 = .ok (.getfield 106, 3) := by decide +kernel
theorem d_M_close_68 : decode b_M_close 68 = .ok (.iconst 1, 1) := by decide +kernel
theorem d_M_close_69 : decode b_M_close 69 = .ok (.iadd, 1) := by decide +kernel
theorem d_M_close_70 : decode b_M_close 70 = .ok (.putfield 106, 3) := by decide +kernel
theorem d_M_close_73 : decode b_M_close 73 = .ok (.aload_n 0, 1) := by decide +kernel
theorem d_M_close_74 : decode b_M_close 74 = .ok (.getfield 97, 3) := by decide +kernel
theorem d_M_close_77 : decode b_M_close 77 = .ok (.ireturn, 1) := by decide +kernel
theorem d_M_undo_0 : decode b_M_undo 0 = .ok (.aload_n 0, 1) := by decide +kernel
theorem d_M_undo_1 : decode b_M_undo 1 = .ok (.iconst 0, 1) := by decide +kernel
theorem d_M_undo_2 : decode b_M_undo 2 = .ok (.putfield 54, 3) := by decide +kernel
theorem d_M_undo_5 : decode b_M_undo 5 = .ok (.iload_n 1, 1) := by decide +kernel
theorem d_M_undo_6 : decode b_M_undo 6 = .ok (.ifCond .lt 11, 3) := by decide +kernel
theorem d_M_undo_9 : decode b_M_undo 9 = .ok (.iload_n 1, 1) := by decide +kernel
theorem d_M_undo_10 : decode b_M_undo 10 = .ok (.aload_n 0, 1) := by decide +kernel
theorem d_M_undo_11 : decode b_M_undo 11 = .ok (.getfield 106, 3) := by decide +kernel
theorem d_M_undo_14 : decode b_M_undo 14 = .ok (.if_icmp .le 5, 3) := by decide +kernel
theorem d_M_undo_17 : decode b_M_undo 17 = .ok (.iconst (-1), 1) := by decide +kernel
theorem d_M_undo_18 : decode b_M_undo 18 = .ok (.ireturn, 1) := by decide +kernel
theorem d_M_undo_19 : decode b_M_undo 19 = .ok (.aload_n 0, 1) := by decide +kernel
theorem d_M_undo_20 : decode b_M_undo 20 = .ok (.getfield 97, 3) := by decide +kernel
theorem d_M_undo_23 : decode b_M_undo 23 = .ok (.iload_n 1, 1) := by decide +kernel
theorem d_M_undo_24 : decode b_M_undo 24 = .ok (.isub, 1) := by decide +kernel
theorem d_M_undo_25 : decode b_M_undo 25 = .ok (.istore_n 2, 1) := by decide +kernel
theorem d_M_undo_26 : decode b_M_undo 26 = .ok (.iload_n 2, 1) := by decide +kernel
theorem d_M_undo_27 : decode b_M_undo 27 = .ok (.istore_n 3, 1) := by decide +kernel
theorem d_M_undo_28 : decode b_M_undo 28 = .ok (.iload_n 3, 1) := by decide +kernel
theorem d_M_undo_29 : decode b_M_undo 29 = .ok (.aload_n 0, 1) := by decide +kernel
theorem d_M_undo_30 : decode b_M_undo 30 = .ok (.getfield 97, 3) := by decide +kernel
theorem d_M_undo_33 : decode b_M_undo 33 = .ok (.if_icmp .gt 75, 3) := by decide +kernel
theorem d_M_undo_36 : decode b_M_undo 36 = .ok (.aload_n 0, 1) := by decide +kernel
theorem d_M_undo_37 : decode b_M_undo 37 = .ok (.dup, 1) := by decide +kernel
theorem d_M_undo_38 : decode b_M_undo 38 = .ok (.getfield 100, 3) := by decide +kernel
theorem d_M_undo_41 : decode b_M_undo 41 = .ok (.aload_n 0, 1) := by decide +kernel
theorem d_M_undo_42 : decode b_M_undo 42 = .ok (.getfield 26, 3) := by decide +kernel
theorem d_M_undo_45 : decode b_M_undo 45 = .ok (.iload_n 3, 1) := by decide +kernel
theorem d_M_undo_46 : decode b_M_undo 46 = .ok (.laload, 1) := by decide +kernel
theorem d_M_undo_47 : decode b_M_undo 47 = .ok (.lsub, 1) := by decide +kernel
theorem d_M_undo_48 : decode b_M_undo 48 = .ok (.putfield 100, 3) := by decide +kernel
theorem d_M_undo_51 : decode b_M_undo 51 = .ok (.aload_n 0, 1) := by decide +kernel
theorem d_M_undo_52 : decode b_M_undo 52 = .ok (.dup, 1) := by decide +kernel
theorem d_M_undo_53 : decode b_M_undo 53 = .ok (.getfield 90, 3) := by decide +kernel
theorem d_M_undo_56 : decode b_M_undo 56 = .ok (.aload_n 0, 1) := by decide +kernel
theorem d_M_undo_57 : decode b_M_undo 57 = .ok (.getfield 29, 3) := by decide +kernel
theorem d_M_undo_60 : decode b_M_undo 60 = .ok (.iload_n 3, 1) := by decide +kernel
theorem d_M_undo_61 : decode b_M_undo 61 = .ok (.laload, 1) := by decide +kernel
theorem d_M_undo_62 : decode b_M_undo 62 = .ok (.lsub, 1) := by decide +kernel
theorem d_M_undo_63 : decode b_M_undo 63 = .ok (.putfield 90, 3) := by decide +kernel
theorem d_M_undo_66 : decode b_M_undo 66 = .ok (.aload_n 0, 1) := by decide +kernel
theorem d_M_undo_67 : decode b_M_undo 67 = .ok (.dup, 1) := by decide +kernel
theorem d_M_undo_68 : decode b_M_undo 68 = .ok (.getfield 103, 3) := by decide +kernel
theorem d_M_undo_71 : decode b_M_undo 71 = .ok (.aload_n 0, 1) := by decide +kernel
theorem d_M_undo_72 : decode b_M_undo 72 = .ok (.getfield 32, 3) := by decide +kernel
theorem d_M_undo_75 : decode b_M_undo 75 = .ok (.iload_n 3, 1) := by decide +kernel
theorem d_M_undo_76 : decode b_M_undo 76 = .ok (.iaload, 1) := by decide +kernel
theorem d_M_undo_77 : decode b_M_undo 77 = .ok (.isub, 1) := by decide +kernel
theorem d_M_undo_78 : decode b_M_undo 78 = .ok (.putfield 103, 3) := by decide +kernel
theorem d_M_undo_81 : decode b_M_undo 81 = .ok (.aload_n 0, 1) := by decide +kernel
theorem d_M_undo_82 : decode b_M_undo 82 = .ok (.getfield 26, 3) := by decide +kernel
theorem d_M_undo_85 : decode b_M_undo 85 = .ok (.iload_n 3, 1) := by decide +kernel
theorem d_M_undo_86 : decode b_M_undo 86 = .ok (.lconst 0, 1) := by decide +kernel
theorem d_M_undo_87 : decode b_M_undo 87 = .ok (.lastore, 1) := by decide +kernel
theorem d_M_undo_88 : decode b_M_undo 88 = .ok (.aload_n 0, 1) := by decide +kernel
theorem d_M_undo_89 : decode b_M_undo 89 = .ok (.getfield 29, 3) := by decide +kernel
theorem d_M_undo_92 : decode b_M_undo 92 = .ok (.iload_n 3, 1) := by decide +kernel
theorem d_M_undo_93 : decode b_M_undo 93 = .ok (.lconst 0, 1) := by decide +kernel
theorem d_M_undo_94 : decode b_M_undo 94 = .ok (.lastore, 1) := by decide +kernel
theorem d_M_undo_95 : decode b_M_undo 95 = .ok (.aload_n 0, 1) := by decide +kernel
theorem d_M_undo_96 : decode b_M_undo 96 = .ok (.getfield 32, 3) := by decide +kernel
theorem d_M_undo_99 : decode b_M_undo 99 = .ok (.iload_n 3, 1) := by decide +kernel
theorem d_M_undo_100 : decode b_M_undo 100 = .ok (.iconst 0, 1) := by decide +kernel
theorem d_M_undo_101 : decode b_M_undo 101 = .ok (.iastore, 1) := by decide +kernel
theorem d_M_undo_102 : decode b_M_undo 102 = .ok (.iinc 3 1, 3) := by decide +kernel
theorem d_M_undo_105 : decode b_M_undo 105 = .ok (.goto (-77), 3) := by decide +kernel
theorem d_M_undo_108 : decode b_M_undo 108 = .ok (.aload_n 0, 1) := by decide +kernel
theorem d_M_undo_109 : decode b_M_undo 109 = .ok (.getfield 57, 3) := by decide +kernel
theorem d_M_undo_112 : decode b_M_undo 112 = .ok (.ifCond .le 31, 3) := by decide +kernel
theorem d_M_undo_115 : decode b_M_undo 115 = .ok (.aload_n 0, 1) := by decide +kernel
theorem d_M_undo_116 : decode b_M_undo 116 = .ok (.getfield 20, 3) := by decide +kernel
theorem d_M_undo_119 : decode b_M_undo 119 = .ok (.aload_n 0, 1) := by decide +kernel
theorem d_M_undo_120 : decode b_M_undo 120 = .ok (.getfield 57, 3) := by decide +kernel
theorem d_M_undo_123 : decode b_M_undo 123 = .ok (.iconst 1, 1) := by decide +kernel
theorem d_M_undo_124 : decode b_M_undo 124 = .ok (.isub, 1) := by decide +kernel
theorem d_M_undo_125 : decode b_M_undo 125 = .ok (.iaload, 1) := by decide +kernel
theorem d_M_undo_126 : decode b_M_undo 126 = .ok (.iload_n 2, 1) := by decide +kernel
theorem d_M_undo_127 : decode b_M_undo 127 = .ok (.if_icmp .lt 16, 3) := by decide +kernel
theorem d_M_undo_130 : decode b_M_undo 130 = .ok (.aload_n 0, 1) := by decide +kernel
theorem d_M_undo_131 : decode b_M_undo 131 = .ok (.dup, 1) := by decide +kernel
theorem d_M_undo_132 : decode b_M_undo 132 = .ok (.getfield 57, 3) := by decide +kernel
theorem d_M_undo_135 : decode b_M_undo 135 = .ok (.iconst 1, 1) := by decide +kernel
theorem d_M_undo_136 : decode b_M_undo 136 = .ok (.isub, 1) := by decide +kernel
theorem d_M_undo_137 : decode b_M_undo 137 = .ok (.putfield 57, 3) := by decide +kernel
theorem d_M_undo_140 : decode b_M_undo 140 = .ok (.goto (-32), 3) := by decide +kernel
theorem d_M_undo_143 : decode b_M_undo 143 = .ok (.iconst 0, 1) := by decide +kernel
theorem d_M_undo_144 : decode b_M_undo 144 = .ok (.istore_n 3, 1) := by decide +kernel
theorem d_M_undo_145 : decode b_M_undo 145 = .ok (.iload_n 3, 1) := by decide +kernel
theorem d_M_undo_146 : decode b_M_undo 146 = .ok (.aload_n 0, 1) := by decide +kernel
theorem d_M_undo_147 : decode b_M_undo 147 = .ok (.getfield 57, 3) := by decide +kernel
theorem d_M_undo_150 : decode b_M_undo 150 = .ok (.if_icmp .ge 35, 3) := by decide +kernel
theorem d_M_undo_153 : decode b_M_undo 153 = .ok (.aload_n 0, 1) := by decide +kernel
theorem d_M_undo_154 : decode b_M_undo 154 = .ok (.getfield 23, 3) := by decide +kernel
theorem d_M_undo_157 : decode b_M_undo 157 = .ok (.iload_n 3, 1) := by decide +kernel
theorem d_M_undo_158 : decode b_M_undo 158 = .ok (.aload_n 0, 1) := by decide +kernel
theorem d_M_undo_159 : decode b_M_undo 159 = .ok (.getfield 23, 3) := by decide +kernel
theorem d_M_undo_162 : decode b_M_undo 162 = .ok (.iload_n 3, 1) := by decide +kernel
theorem d_M_undo_163 : decode b_M_undo 163 = .ok (.iaload, 1) := by decide +kernel
theorem d_M_undo_164 : decode b_M_undo 164 = .ok (.iload_n 2, 1) := by decide +kernel
theorem d_M_undo_165 : decode b_M_undo 165 = .ok (.if_icmp .lt 7, 3) := by decide +kernel
theorem d_M_undo_168 : decode b_M_undo 168 = .ok (.iconst (-1), 1) := by decide +kernel
theorem d_M_undo_169 : decode b_M_undo 169 = .ok (.goto 9, 3) := by decide +kernel
theorem d_M_undo_172 : decode b_M_undo 172 = .ok (.aload_n 0, 1) := by decide +kernel
theorem d_M_undo_173 : decode b_M_undo 173 = .ok (.getfield 23, 3) := by decide +kernel
theorem d_M_undo_176 : decode b_M_undo 176 = .ok (.iload_n 3, 1) := by decide +kernel
theorem d_M_undo_177 : decode b_M_undo 177 = .ok (.iaload, 1) := by decide +kernel
theorem d_M_undo_178 : decode b_M_undo 178 = .ok (.iastore, 1) := by decide +kernel
theorem d_M_undo_179 : decode b_M_undo 179 = .ok (.iinc 3 1, 3) := by decide +kernel
theorem d_M_undo_182 : decode b_M_undo 182 = .ok (.goto (-37), 3) := by decide +kernel
theorem d_M_undo_185 : decode b_M_undo 185 = .ok (.aload_n 0, 1) := by decide +kernel
theorem d_M_undo_186 : decode b_M_undo 186 = .ok (.iload_n 2, 1) := by decide +kernel
theorem d_M_undo_187 : decode b_M_undo 187 = .ok (.putfield 97, 3) := by decide +kernel
theorem d_M_undo_190 : decode b_M_undo 190 = .ok (.aload_n 0, 1) := by decide +kernel
theorem d_M_undo_191 : decode b_M_undo 191 = .ok (.dup, 1) := by decide +kernel
theorem d_M_undo_192 : decode b_M_undo 192 = .ok (.getfield 106, 3) := by decide +kernel
theorem d_M_undo_195 : decode b_M_undo 195 = .ok (.iload_n 1, 1) := by decide +kernel
theorem d_M_undo_196 : decode b_M_undo 196 = .ok (.isub, 1) := by decide +kernel
theorem d_M_undo_197 : decode b_M_undo 197 = .ok (.putfield 106, 3) := by decide +kernel
theorem d_M_undo_200 : decode b_M_undo 200 = .ok (.aload_n 0, 1) := by decide +kernel
theorem d_M_undo_201 : decode b_M_undo 201 = .ok (.invokevirtual 83, 3) := by decide +kernel
theorem d_M_undo_204 : decode b_M_undo 204 = .ok (.aload_n 0, 1) := by decide +kernel
theorem d_M_undo_205 : decode b_M_undo 205 = .ok (.getfield 97, 3) := by decide +kernel
theorem d_M_undo_208 : decode b_M_undo 208 = .ok (.ireturn, 1) := by decide +kernel
theorem d_M_output_0 : decode b_M_output 0 = .ok (.aload_n 0, 1) := by decide +kernel
theorem d_M_output_1 : decode b_M_output 1 = .ok (.iconst 0, 1) := by decide +kernel
theorem d_M_output_2 : decode b_M_output 2 = .ok (.putfield 54, 3) := by decide +kernel
theorem d_M_output_5 : decode b_M_output 5 = .ok (.aload_n 0, 1) := by decide +kernel
theorem d_M_output_6 : decode b_M_output 6 = .ok (.iload_n 1, 1) := by decide +kernel
theorem d_M_output_7 : decode b_M_output 7 = .ok (.invokevirtual 60, 3) := by decide +kernel
theorem d_M_output_10 : decode b_M_output 10 = .ok (.ifCond .ne 5, 3) := by decide +kernel
theorem d_M_output_13 : decode b_M_output 13 = .ok (.iconst (-1), 1) := by decide +kernel
theorem d_M_output_14 : decode b_M_output 14 = .ok (.ireturn, 1) := by decide +kernel
theorem d_M_output_15 : decode b_M_output 15 = .ok (.iload_n 2, 1) := by decide +kernel
theorem d_M_output_16 : decode b_M_output 16 = .ok (.ifCond .ne 12, 3) := by decide +kernel
theorem d_M_output_19 : decode b_M_output 19 = .ok (.aload_n 0, 1) := by decide +kernel
theorem d_M_output_20 : decode b_M_output 20 = .ok (.getfield 7, 3) := by decide +kernel
theorem d_M_output_23 : decode b_M_output 23 = .ok (.iload_n 1, 1) := by decide +kernel
theorem d_M_output_24 : decode b_M_output 24 = .ok (.iaload, 1) := by decide +kernel
theorem d_M_output_25 : decode b_M_output 25 = .ok (.goto 53, 3) := by decide +kernel
theorem d_M_output_28 : decode b_M_output 28 = .ok (.iload_n 2, 1) := by decide +kernel
theorem d_M_output_29 : decode b_M_output 29 = .ok (.iconst 1, 1) := by decide +kernel
theorem d_M_output_30 : decode b_M_output 30 = .ok (.if_icmp .ne 19, 3) := by decide +kernel
theorem d_M_output_33 : decode b_M_output 33 = .ok (.aload_n 0, 1) := by decide +kernel
theorem d_M_output_34 : decode b_M_output 34 = .ok (.iload_n 1, 1) := by decide +kernel
theorem d_M_output_35 : decode b_M_output 35 = .ok (.invokevirtual 74, 3) := by decide +kernel
theorem d_M_output_38 : decode b_M_output 38 = .ok (.ifCond .eq 7, 3) := by decide +kernel
theorem d_M_output_41 : decode b_M_output 41 = .ok (.iconst 1, 1) := by decide +kernel
theorem d_M_output_42 : decode b_M_output 42 = .ok (.goto 36, 3) := by decide +kernel
theorem d_M_output_45 : decode b_M_output 45 = .ok (.iconst 0, 1) := by decide +kernel
theorem d_M_output_46 : decode b_M_output 46 = .ok (.goto 32, 3) := by decide +kernel
theorem d_M_output_49 : decode b_M_output 49 = .ok (.iload_n 2, 1) := by decide +kernel
theorem d_M_output_50 : decode b_M_output 50 = .ok (.iconst 2, 1) := by decide +kernel
theorem d_M_output_51 : decode b_M_output 51 = .ok (.if_icmp .ne 12, 3) := by decide +kernel
theorem d_M_output_54 : decode b_M_output 54 = .ok (.aload_n 0, 1) := by decide +kernel
theorem d_M_output_55 : decode b_M_output 55 = .ok (.getfield 20, 3) := by decide +kernel
theorem d_M_output_58 : decode b_M_output 58 = .ok (.iload_n 1, 1) := by decide +kernel
theorem d_M_output_59 : decode b_M_output 59 = .ok (.iaload, 1) := by decide +kernel
theorem d_M_output_60 : decode b_M_output 60 = .ok (.goto 18, 3) := by decide +kernel
theorem d_M_output_63 : decode b_M_output 63 = .ok (.iload_n 2, 1) := by decide +kernel
theorem d_M_output_64 : decode b_M_output 64 = .ok (.iconst 3, 1) := by decide +kernel
theorem d_M_output_65 : decode b_M_output 65 = .ok (.if_icmp .ne 12, 3) := by decide +kernel
theorem d_M_output_68 : decode b_M_output 68 = .ok (.aload_n 0, 1) := by decide +kernel
theorem d_M_output_69 : decode b_M_output 69 = .ok (.getfield 23, 3) := by decide +kernel
theorem d_M_output_72 : decode b_M_output 72 = .ok (.iload_n 1, 1) := by decide +kernel
theorem d_M_output_73 : decode b_M_output 73 = .ok (.iaload, 1) := by decide +kernel
theorem d_M_output_74 : decode b_M_output 74 = .ok (.goto 4, 3) := by decide +kernel
theorem d_M_output_77 : decode b_M_output 77 = .ok (.iconst (-1), 1) := by decide +kernel
theorem d_M_output_78 : decode b_M_output 78 = .ok (.ireturn, 1) := by decide +kernel
theorem d_M_amount_0 : decode b_M_amount 0 = .ok (.aload_n 0, 1) := by decide +kernel
theorem d_M_amount_1 : decode b_M_amount 1 = .ok (.iconst 0, 1) := by decide +kernel
theorem d_M_amount_2 : decode b_M_amount 2 = .ok (.putfield 54, 3) := by decide +kernel
theorem d_M_amount_5 : decode b_M_amount 5 = .ok (.aload_n 0, 1) := by decide +kernel
theorem d_M_amount_6 : decode b_M_amount 6 = .ok (.iload_n 1, 1) := by decide +kernel
theorem d_M_amount_7 : decode b_M_amount 7 = .ok (.invokevirtual 60, 3) := by decide +kernel
theorem d_M_amount_10 : decode b_M_amount 10 = .ok (.ifCond .eq 12, 3) := by decide +kernel
theorem d_M_amount_13 : decode b_M_amount 13 = .ok (.aload_n 0, 1) := by decide +kernel
theorem d_M_amount_14 : decode b_M_amount 14 = .ok (.getfield 13, 3) := by decide +kernel
theorem d_M_amount_17 : decode b_M_amount 17 = .ok (.iload_n 1, 1) := by decide +kernel
theorem d_M_amount_18 : decode b_M_amount 18 = .ok (.laload, 1) := by decide +kernel
theorem d_M_amount_19 : decode b_M_amount 19 = .ok (.goto 4, 3) := by decide +kernel
theorem d_M_amount_22 : decode b_M_amount 22 = .ok (.lconst 0, 1) := by decide +kernel
theorem d_M_amount_23 : decode b_M_amount 23 = .ok (.lreturn, 1) := by decide +kernel
theorem d_M_tag_0 : decode b_M_tag 0 = .ok (.aload_n 0, 1) := by decide +kernel
theorem d_M_tag_1 : decode b_M_tag 1 = .ok (.iconst 0, 1) := by decide +kernel
theorem d_M_tag_2 : decode b_M_tag 2 = .ok (.putfield 54, 3) := by decide +kernel
theorem d_M_tag_5 : decode b_M_tag 5 = .ok (.aload_n 0, 1) := by decide +kernel
theorem d_M_tag_6 : decode b_M_tag 6 = .ok (.iload_n 1, 1) := by decide +kernel
theorem d_M_tag_7 : decode b_M_tag 7 = .ok (.invokevirtual 60, 3) := by decide +kernel
theorem d_M_tag_10 : decode b_M_tag 10 = .ok (.ifCond .eq 12, 3) := by decide +kernel
theorem d_M_tag_13 : decode b_M_tag 13 = .ok (.aload_n 0, 1) := by decide +kernel
theorem d_M_tag_14 : decode b_M_tag 14 = .ok (.getfield 17, 3) := by decide +kernel
theorem d_M_tag_17 : decode b_M_tag 17 = .ok (.iload_n 1, 1) := by decide +kernel
theorem d_M_tag_18 : decode b_M_tag 18 = .ok (.laload, 1) := by decide +kernel
theorem d_M_tag_19 : decode b_M_tag 19 = .ok (.goto 4, 3) := by decide +kernel
theorem d_M_tag_22 : decode b_M_tag 22 = .ok (.lconst 0, 1) := by decide +kernel
theorem d_M_tag_23 : decode b_M_tag 23 = .ok (.lreturn, 1) := by decide +kernel
theorem d_M_balance_0 : decode b_M_balance 0 = .ok (.aload_n 0, 1) := by decide +kernel
theorem d_M_balance_1 : decode b_M_balance 1 = .ok (.iconst 0, 1) := by decide +kernel
theorem d_M_balance_2 : decode b_M_balance 2 = .ok (.putfield 54, 3) := by decide +kernel
theorem d_M_balance_5 : decode b_M_balance 5 = .ok (.lconst 0, 1) := by decide +kernel
theorem d_M_balance_6 : decode b_M_balance 6 = .ok (.lstore_n 2, 1) := by decide +kernel
theorem d_M_balance_7 : decode b_M_balance 7 = .ok (.iconst 0, 1) := by decide +kernel
theorem d_M_balance_8 : decode b_M_balance 8 = .ok (.istore 4, 2) := by decide +kernel
theorem d_M_balance_10 : decode b_M_balance 10 = .ok (.iload 4, 2) := by decide +kernel
theorem d_M_balance_12 : decode b_M_balance 12 = .ok (.aload_n 0, 1) := by decide +kernel
theorem d_M_balance_13 : decode b_M_balance 13 = .ok (.getfield 57, 3) := by decide +kernel
theorem d_M_balance_16 : decode b_M_balance 16 = .ok (.if_icmp .ge 43, 3) := by decide +kernel
theorem d_M_balance_19 : decode b_M_balance 19 = .ok (.lload_n 2, 1) := by decide +kernel
theorem d_M_balance_20 : decode b_M_balance 20 = .ok (.aload_n 0, 1) := by decide +kernel
theorem d_M_balance_21 : decode b_M_balance 21 = .ok (.iload 4, 2) := by decide +kernel
theorem d_M_balance_23 : decode b_M_balance 23 = .ok (.invokevirtual 74, 3) := by decide +kernel
theorem d_M_balance_26 : decode b_M_balance 26 = .ok (.ifCond .eq 24, 3) := by decide +kernel
theorem d_M_balance_29 : decode b_M_balance 29 = .ok (.aload_n 0, 1) := by decide +kernel
theorem d_M_balance_30 : decode b_M_balance 30 = .ok (.getfield 7, 3) := by decide +kernel
theorem d_M_balance_33 : decode b_M_balance 33 = .ok (.iload 4, 2) := by decide +kernel
theorem d_M_balance_35 : decode b_M_balance 35 = .ok (.iaload, 1) := by decide +kernel
theorem d_M_balance_36 : decode b_M_balance 36 = .ok (.iload_n 1, 1) := by decide +kernel
theorem d_M_balance_37 : decode b_M_balance 37 = .ok (.if_icmp .ne 13, 3) := by decide +kernel
theorem d_M_balance_40 : decode b_M_balance 40 = .ok (.aload_n 0, 1) := by decide +kernel
theorem d_M_balance_41 : decode b_M_balance 41 = .ok (.getfield 13, 3) := by decide +kernel
theorem d_M_balance_44 : decode b_M_balance 44 = .ok (.iload 4, 2) := by decide +kernel
theorem d_M_balance_46 : decode b_M_balance 46 = .ok (.laload, 1) := by decide +kernel
theorem d_M_balance_47 : decode b_M_balance 47 = .ok (.goto 4, 3) := by decide +kernel
theorem d_M_balance_50 : decode b_M_balance 50 = .ok (.lconst 0, 1) := by decide +kernel
theorem d_M_balance_51 : decode b_M_balance 51 = .ok (.ladd, 1) := by decide +kernel
theorem d_M_balance_52 : decode b_M_balance 52 = .ok (.lstore_n 2, 1) := by decide +kernel
theorem d_M_balance_53 : decode b_M_balance 53 = .ok (.iinc 4 1, 3) := by decide +kernel
theorem d_M_balance_56 : decode b_M_balance 56 = .ok (.goto (-46), 3) := by decide +kernel
theorem d_M_balance_59 : decode b_M_balance 59 = .ok (.lload_n 2, 1) := by decide +kernel
theorem d_M_balance_60 : decode b_M_balance 60 = .ok (.lreturn, 1) := by decide +kernel
theorem d_M_count_0 : decode b_M_count 0 = .ok (.aload_n 0, 1) := by decide +kernel
theorem d_M_count_1 : decode b_M_count 1 = .ok (.iconst 0, 1) := by decide +kernel
theorem d_M_count_2 : decode b_M_count 2 = .ok (.putfield 54, 3) := by decide +kernel
theorem d_M_count_5 : decode b_M_count 5 = .ok (.iconst 0, 1) := by decide +kernel
theorem d_M_count_6 : decode b_M_count 6 = .ok (.istore_n 2, 1) := by decide +kernel
theorem d_M_count_7 : decode b_M_count 7 = .ok (.iconst 0, 1) := by decide +kernel
theorem d_M_count_8 : decode b_M_count 8 = .ok (.istore_n 3, 1) := by decide +kernel
theorem d_M_count_9 : decode b_M_count 9 = .ok (.iload_n 3, 1) := by decide +kernel
theorem d_M_count_10 : decode b_M_count 10 = .ok (.aload_n 0, 1) := by decide +kernel
theorem d_M_count_11 : decode b_M_count 11 = .ok (.getfield 57, 3) := by decide +kernel
theorem d_M_count_14 : decode b_M_count 14 = .ok (.if_icmp .ge 35, 3) := by decide +kernel
theorem d_M_count_17 : decode b_M_count 17 = .ok (.iload_n 2, 1) := by decide +kernel
theorem d_M_count_18 : decode b_M_count 18 = .ok (.aload_n 0, 1) := by decide +kernel
theorem d_M_count_19 : decode b_M_count 19 = .ok (.iload_n 3, 1) := by decide +kernel
theorem d_M_count_20 : decode b_M_count 20 = .ok (.invokevirtual 74, 3) := by decide +kernel
theorem d_M_count_23 : decode b_M_count 23 = .ok (.ifCond .eq 17, 3) := by decide +kernel
theorem d_M_count_26 : decode b_M_count 26 = .ok (.aload_n 0, 1) := by decide +kernel
theorem d_M_count_27 : decode b_M_count 27 = .ok (.getfield 7, 3) := by decide +kernel
theorem d_M_count_30 : decode b_M_count 30 = .ok (.iload_n 3, 1) := by decide +kernel
theorem d_M_count_31 : decode b_M_count 31 = .ok (.iaload, 1) := by decide +kernel
theorem d_M_count_32 : decode b_M_count 32 = .ok (.iload_n 1, 1) := by decide +kernel
theorem d_M_count_33 : decode b_M_count 33 = .ok (.if_icmp .ne 7, 3) := by decide +kernel
theorem d_M_count_36 : decode b_M_count 36 = .ok (.iconst 1, 1) := by decide +kernel
theorem d_M_count_37 : decode b_M_count 37 = .ok (.goto 4, 3) := by decide +kernel
theorem d_M_count_40 : decode b_M_count 40 = .ok (.iconst 0, 1) := by decide +kernel
theorem d_M_count_41 : decode b_M_count 41 = .ok (.iadd, 1) := by decide +kernel
theorem d_M_count_42 : decode b_M_count 42 = .ok (.istore_n 2, 1) := by decide +kernel
theorem d_M_count_43 : decode b_M_count 43 = .ok (.iinc 3 1, 3) := by decide +kernel
theorem d_M_count_46 : decode b_M_count 46 = .ok (.goto (-37), 3) := by decide +kernel
theorem d_M_count_49 : decode b_M_count 49 = .ok (.iload_n 2, 1) := by decide +kernel
theorem d_M_count_50 : decode b_M_count 50 = .ok (.ireturn, 1) := by decide +kernel
theorem d_M_nth_0 : decode b_M_nth 0 = .ok (.aload_n 0, 1) := by decide +kernel
theorem d_M_nth_1 : decode b_M_nth 1 = .ok (.iconst 0, 1) := by decide +kernel
theorem d_M_nth_2 : decode b_M_nth 2 = .ok (.putfield 54, 3) := by decide +kernel
theorem d_M_nth_5 : decode b_M_nth 5 = .ok (.iload_n 2, 1) := by decide +kernel
theorem d_M_nth_6 : decode b_M_nth 6 = .ok (.istore_n 3, 1) := by decide +kernel
theorem d_M_nth_7 : decode b_M_nth 7 = .ok (.iconst 0, 1) := by decide +kernel
theorem d_M_nth_8 : decode b_M_nth 8 = .ok (.istore 4, 2) := by decide +kernel
theorem d_M_nth_10 : decode b_M_nth 10 = .ok (.iload 4, 2) := by decide +kernel
theorem d_M_nth_12 : decode b_M_nth 12 = .ok (.aload_n 0, 1) := by decide +kernel
theorem d_M_nth_13 : decode b_M_nth 13 = .ok (.getfield 57, 3) := by decide +kernel
theorem d_M_nth_16 : decode b_M_nth 16 = .ok (.if_icmp .ge 43, 3) := by decide +kernel
theorem d_M_nth_19 : decode b_M_nth 19 = .ok (.iload_n 3, 1) := by decide +kernel
theorem d_M_nth_20 : decode b_M_nth 20 = .ok (.ifCond .lt 39, 3) := by decide +kernel
theorem d_M_nth_23 : decode b_M_nth 23 = .ok (.aload_n 0, 1) := by decide +kernel
theorem d_M_nth_24 : decode b_M_nth 24 = .ok (.iload 4, 2) := by decide +kernel
theorem d_M_nth_26 : decode b_M_nth 26 = .ok (.invokevirtual 74, 3) := by decide +kernel
theorem d_M_nth_29 : decode b_M_nth 29 = .ok (.ifCond .eq 24, 3) := by decide +kernel
theorem d_M_nth_32 : decode b_M_nth 32 = .ok (.aload_n 0, 1) := by decide +kernel
theorem d_M_nth_33 : decode b_M_nth 33 = .ok (.getfield 7, 3) := by decide +kernel
theorem d_M_nth_36 : decode b_M_nth 36 = .ok (.iload 4, 2) := by decide +kernel
theorem d_M_nth_38 : decode b_M_nth 38 = .ok (.iaload, 1) := by decide +kernel
theorem d_M_nth_39 : decode b_M_nth 39 = .ok (.iload_n 1, 1) := by decide +kernel
theorem d_M_nth_40 : decode b_M_nth 40 = .ok (.if_icmp .ne 13, 3) := by decide +kernel
theorem d_M_nth_43 : decode b_M_nth 43 = .ok (.iload_n 3, 1) := by decide +kernel
theorem d_M_nth_44 : decode b_M_nth 44 = .ok (.ifCond .ne 6, 3) := by decide +kernel
theorem d_M_nth_47 : decode b_M_nth 47 = .ok (.iload 4, 2) := by decide +kernel
theorem d_M_nth_49 : decode b_M_nth 49 = .ok (.ireturn, 1) := by decide +kernel
theorem d_M_nth_50 : decode b_M_nth 50 = .ok (.iinc 3 (-1), 3) := by decide +kernel
theorem d_M_nth_53 : decode b_M_nth 53 = .ok (.iinc 4 1, 3) := by decide +kernel
theorem d_M_nth_56 : decode b_M_nth 56 = .ok (.goto (-46), 3) := by decide +kernel
theorem d_M_nth_59 : decode b_M_nth 59 = .ok (.iconst (-1), 1) := by decide +kernel
theorem d_M_nth_60 : decode b_M_nth 60 = .ok (.ireturn, 1) := by decide +kernel
theorem d_M_best_0 : decode b_M_best 0 = .ok (.iconst (-1), 1) := by decide +kernel
theorem d_M_best_1 : decode b_M_best 1 = .ok (.istore_n 3, 1) := by decide +kernel
theorem d_M_best_2 : decode b_M_best 2 = .ok (.iconst 0, 1) := by decide +kernel
theorem d_M_best_3 : decode b_M_best 3 = .ok (.istore 4, 2) := by decide +kernel
theorem d_M_best_5 : decode b_M_best 5 = .ok (.iload 4, 2) := by decide +kernel
theorem d_M_best_7 : decode b_M_best 7 = .ok (.aload_n 0, 1) := by decide +kernel
theorem d_M_best_8 : decode b_M_best 8 = .ok (.getfield 57, 3) := by decide +kernel
theorem d_M_best_11 : decode b_M_best 11 = .ok (.if_icmp .ge 116, 3) := by decide +kernel
theorem d_M_best_14 : decode b_M_best 14 = .ok (.aload_n 0, 1) := by decide +kernel
theorem d_M_best_15 : decode b_M_best 15 = .ok (.iload 4, 2) := by decide +kernel
theorem d_M_best_17 : decode b_M_best 17 = .ok (.invokevirtual 74, 3) := by decide +kernel
theorem d_M_best_20 : decode b_M_best 20 = .ok (.ifCond .eq 18, 3) := by decide +kernel
theorem d_M_best_23 : decode b_M_best 23 = .ok (.aload_n 0, 1) := by decide +kernel
theorem d_M_best_24 : decode b_M_best 24 = .ok (.getfield 7, 3) := by decide +kernel
theorem d_M_best_27 : decode b_M_best 27 = .ok (.iload 4, 2) := by decide +kernel
theorem d_M_best_29 : decode b_M_best 29 = .ok (.iaload, 1) := by decide +kernel
theorem d_M_best_30 : decode b_M_best 30 = .ok (.iload_n 1, 1) := by decide +kernel
theorem d_M_best_31 : decode b_M_best 31 = .ok (.if_icmp .ne 7, 3) := by decide +kernel
theorem d_M_best_34 : decode b_M_best 34 = .ok (.iconst 1, 1) := by decide +kernel
theorem d_M_best_35 : decode b_M_best 35 = .ok (.goto 4, 3) := by decide +kernel
theorem d_M_best_38 : decode b_M_best 38 = .ok (.iconst 0, 1) := by decide +kernel
theorem d_M_best_39 : decode b_M_best 39 = .ok (.istore 5, 2) := by decide +kernel
theorem d_M_best_41 : decode b_M_best 41 = .ok (.iconst 0, 1) := by decide +kernel
theorem d_M_best_42 : decode b_M_best 42 = .ok (.istore 6, 2) := by decide +kernel
theorem d_M_best_44 : decode b_M_best 44 = .ok (.iload 6, 2) := by decide +kernel
theorem d_M_best_46 : decode b_M_best 46 = .ok (.iload_n 2, 1) := by decide +kernel
theorem d_M_best_47 : decode b_M_best 47 = .ok (.if_icmp .ge 33, 3) := by decide +kernel
theorem d_M_best_50 : decode b_M_best 50 = .ok (.iload 5, 2) := by decide +kernel
theorem d_M_best_52 : decode b_M_best 52 = .ok (.ifCond .eq 19, 3) := by decide +kernel
theorem d_M_best_55 : decode b_M_best 55 = .ok (.aload_n 0, 1) := by decide +kernel
theorem d_M_best_56 : decode b_M_best 56 = .ok (.getfield 47, 3) := by decide +kernel
theorem d_M_best_59 : decode b_M_best 59 = .ok (.iload 6, 2) := by decide +kernel
theorem d_M_best_61 : decode b_M_best 61 = .ok (.iaload, 1) := by decide +kernel
theorem d_M_best_62 : decode b_M_best 62 = .ok (.iload 4, 2) := by decide +kernel
theorem d_M_best_64 : decode b_M_best 64 = .ok (.if_icmp .eq 7, 3) := by decide +kernel
theorem d_M_best_67 : decode b_M_best 67 = .ok (.iconst 1, 1) := by decide +kernel
theorem d_M_best_68 : decode b_M_best 68 = .ok (.goto 4, 3) := by decide +kernel
theorem d_M_best_71 : decode b_M_best 71 = .ok (.iconst 0, 1) := by decide +kernel
theorem d_M_best_72 : decode b_M_best 72 = .ok (.istore 5, 2) := by decide +kernel
theorem d_M_best_74 : decode b_M_best 74 = .ok (.iinc 6 1, 3) := by decide +kernel
theorem d_M_best_77 : decode b_M_best 77 = .ok (.goto (-33), 3) := by decide +kernel
theorem d_M_best_80 : decode b_M_best 80 = .ok (.iload 5, 2) := by decide +kernel
theorem d_M_best_82 : decode b_M_best 82 = .ok (.ifCond .eq 37, 3) := by decide +kernel
theorem d_M_best_85 : decode b_M_best 85 = .ok (.iload_n 3, 1) := by decide +kernel
theorem d_M_best_86 : decode b_M_best 86 = .ok (.ifCond .lt 28, 3) := by decide +kernel
theorem d_M_best_89 : decode b_M_best 89 = .ok (.aload_n 0, 1) := by decide +kernel
theorem d_M_best_90 : decode b_M_best 90 = .ok (.getfield 13, 3) := by decide +kernel
theorem d_M_best_93 : decode b_M_best 93 = .ok (.iload 4, 2) := by decide +kernel
theorem d_M_best_95 : decode b_M_best 95 = .ok (.laload, 1) := by decide +kernel
theorem d_M_best_96 : decode b_M_best 96 = .ok (.aload_n 0, 1) := by decide +kernel
theorem d_M_best_97 : decode b_M_best 97 = .ok (.getfield 13, 3) := by decide +kernel
theorem d_M_best_100 : decode b_M_best 100 = .ok (.iload_n 3, 1) := by decide +kernel
theorem d_M_best_101 : decode b_M_best 101 = .ok (.ifCond .ge 7, 3) := by decide +kernel
theorem d_M_best_104 : decode b_M_best 104 = .ok (.iconst 0, 1) := by decide +kernel
theorem d_M_best_105 : decode b_M_best 105 = .ok (.goto 4, 3) := by decide +kernel
theorem d_M_best_108 : decode b_M_best 108 = .ok (.iload_n 3, 1) := by decide +kernel
theorem d_M_best_109 : decode b_M_best 109 = .ok (.laload, 1) := by decide +kernel
theorem d_M_best_110 : decode b_M_best 110 = .ok (.lcmp, 1) := by decide +kernel
theorem d_M_best_111 : decode b_M_best 111 = .ok (.ifCond .le 8, 3) := by decide +kernel
theorem d_M_best_114 : decode b_M_best 114 = .ok (.iload 4, 2) := by decide +kernel
theorem d_M_best_116 : decode b_M_best 116 = .ok (.goto 4, 3) := by decide +kernel
theorem d_M_best_119 : decode b_M_best 119 = .ok (.iload_n 3, 1) := by decide +kernel
theorem d_M_best_120 : decode b_M_best 120 = .ok (.istore_n 3, 1) := by decide +kernel
theorem d_M_best_121 : decode b_M_best 121 = .ok (.iinc 4 1, 3) := by decide +kernel
theorem d_M_best_124 : decode b_M_best 124 = .ok (.goto (-119), 3) := by decide +kernel
theorem d_M_best_127 : decode b_M_best 127 = .ok (.iload_n 3, 1) := by decide +kernel
theorem d_M_best_128 : decode b_M_best 128 = .ok (.ireturn, 1) := by decide +kernel
theorem d_M_gather_0 : decode b_M_gather 0 = .ok (.aload_n 0, 1) := by decide +kernel
theorem d_M_gather_1 : decode b_M_gather 1 = .ok (.iconst 0, 1) := by decide +kernel
theorem d_M_gather_2 : decode b_M_gather 2 = .ok (.putfield 54, 3) := by decide +kernel
theorem d_M_gather_5 : decode b_M_gather 5 = .ok (.lload_n 2, 1) := by decide +kernel
theorem d_M_gather_6 : decode b_M_gather 6 = .ok (.lconst 1, 1) := by decide +kernel
theorem d_M_gather_7 : decode b_M_gather 7 = .ok (.lcmp, 1) := by decide +kernel
theorem d_M_gather_8 : decode b_M_gather 8 = .ok (.ifCond .ge 5, 3) := by decide +kernel
theorem d_M_gather_11 : decode b_M_gather 11 = .ok (.iconst (-1), 1) := by decide +kernel
theorem d_M_gather_12 : decode b_M_gather 12 = .ok (.ireturn, 1) := by decide +kernel
theorem d_M_gather_13 : decode b_M_gather 13 = .ok (.lload_n 2, 1) := by decide +kernel
theorem d_M_gather_14 : decode b_M_gather 14 = .ok (.lstore 4, 2) := by decide +kernel
theorem d_M_gather_16 : decode b_M_gather 16 = .ok (.iconst 0, 1) := by decide +kernel
theorem d_M_gather_17 : decode b_M_gather 17 = .ok (.istore 6, 2) := by decide +kernel
theorem d_M_gather_19 : decode b_M_gather 19 = .ok (.lload 4, 2) := by decide +kernel
theorem d_M_gather_21 : decode b_M_gather 21 = .ok (.lconst 0, 1) := by decide +kernel
theorem d_M_gather_22 : decode b_M_gather 22 = .ok (.lcmp, 1) := by decide +kernel
theorem d_M_gather_23 : decode b_M_gather 23 = .ok (.ifCond .le 71, 3) := by decide +kernel
theorem d_M_gather_26 : decode b_M_gather 26 = .ok (.iload 6, 2) := by decide +kernel
theorem d_M_gather_28 : decode b_M_gather 28 = .ok (.aload_n 0, 1) := by decide +kernel
theorem d_M_gather_29 : decode b_M_gather 29 = .ok (.getfield 64, 3) := by decide +kernel
theorem d_M_gather_32 : decode b_M_gather 32 = .ok (.iadd, 1) := by decide +kernel
theorem d_M_gather_33 : decode b_M_gather 33 = .ok (.bipush 16, 2) := by decide +kernel
theorem d_M_gather_35 : decode b_M_gather 35 = .ok (.if_icmp .ge 13, 3) := by decide +kernel
theorem d_M_gather_38 : decode b_M_gather 38 = .ok (.aload_n 0, 1) := by decide +kernel
theorem d_M_gather_39 : decode b_M_gather 39 = .ok (.iload_n 1, 1) := by decide +kernel
theorem d_M_gather_40 : decode b_M_gather 40 = .ok (.iload 6, 2) := by decide +kernel
theorem d_M_gather_42 : decode b_M_gather 42 = .ok (.invokevirtual 109, 3) := by decide +kernel
theorem d_M_gather_45 : decode b_M_gather 45 = .ok (.goto 4, 3) := by decide +kernel
theorem d_M_gather_48 : decode b_M_gather 48 = .ok (.iconst (-1), 1) := by decide +kernel
theorem d_M_gather_49 : decode b_M_gather 49 = .ok (.istore 7, 2) := by decide +kernel
theorem d_M_gather_51 : decode b_M_gather 51 = .ok (.iload 7, 2) := by decide +kernel
theorem d_M_gather_53 : decode b_M_gather 53 = .ok (.ifCond .lt 12, 3) := by decide +kernel
theorem d_M_gather_56 : decode b_M_gather 56 = .ok (.aload_n 0, 1) := by decide +kernel
theorem d_M_gather_57 : decode b_M_gather 57 = .ok (.iload 7, 2) := by decide +kernel
theorem d_M_gather_59 : decode b_M_gather 59 = .ok (.invokevirtual 77, 3) := by decide +kernel
theorem d_M_gather_62 : decode b_M_gather 62 = .ok (.ifCond .eq 5, 3) := by decide +kernel
theorem d_M_gather_65 : decode b_M_gather 65 = .ok (.iconst (-1), 1) := by decide +kernel
theorem d_M_gather_66 : decode b_M_gather 66 = .ok (.ireturn, 1) := by decide +kernel
theorem d_M_gather_67 : decode b_M_gather 67 = .ok (.aload_n 0, 1) := by decide +kernel
theorem d_M_gather_68 : decode b_M_gather 68 = .ok (.getfield 47, 3) := by decide +kernel
theorem d_M_gather_71 : decode b_M_gather 71 = .ok (.iload 6, 2) := by decide +kernel
theorem d_M_gather_73 : decode b_M_gather 73 = .ok (.iload 7, 2) := by decide +kernel
theorem d_M_gather_75 : decode b_M_gather 75 = .ok (.iastore, 1) := by decide +kernel
theorem d_M_gather_76 : decode b_M_gather 76 = .ok (.iinc 6 1, 3) := by decide +kernel
theorem d_M_gather_79 : decode b_M_gather 79 = .ok (.lload 4, 2) := by decide +kernel
theorem d_M_gather_81 : decode b_M_gather 81 = .ok (.aload_n 0, 1) := by decide +kernel
theorem d_M_gather_82 : decode b_M_gather 82 = .ok (.getfield 13, 3) := by decide +kernel
theorem d_M_gather_85 : decode b_M_gather 85 = .ok (.iload 7, 2) := by decide +kernel
theorem d_M_gather_87 : decode b_M_gather 87 = .ok (.laload, 1) := by decide +kernel
theorem d_M_gather_88 : decode b_M_gather 88 = .ok (.lsub, 1) := by decide +kernel
theorem d_M_gather_89 : decode b_M_gather 89 = .ok (.lstore 4, 2) := by decide +kernel
theorem d_M_gather_91 : decode b_M_gather 91 = .ok (.goto (-72), 3) := by decide +kernel
theorem d_M_gather_94 : decode b_M_gather 94 = .ok (.iconst 0, 1) := by decide +kernel
theorem d_M_gather_95 : decode b_M_gather 95 = .ok (.istore 7, 2) := by decide +kernel
theorem d_M_gather_97 : decode b_M_gather 97 = .ok (.iload 7, 2) := by decide +kernel
theorem d_M_gather_99 : decode b_M_gather 99 = .ok (.iload 6, 2) := by decide +kernel
theorem d_M_gather_101 : decode b_M_gather 101 = .ok (.if_icmp .ge 35, 3) := by decide +kernel
theorem d_M_gather_104 : decode b_M_gather 104 = .ok (.aload_n 0, 1) := by decide +kernel
theorem d_M_gather_105 : decode b_M_gather 105 = .ok (.getfield 35, 3) := by decide +kernel
theorem d_M_gather_108 : decode b_M_gather 108 = .ok (.aload_n 0, 1) := by decide +kernel
theorem d_M_gather_109 : decode b_M_gather 109 = .ok (.getfield 64, 3) := by decide +kernel
theorem d_M_gather_112 : decode b_M_gather 112 = .ok (.aload_n 0, 1) := by decide +kernel
theorem d_M_gather_113 : decode b_M_gather 113 = .ok (.getfield 47, 3) := by decide +kernel
theorem d_M_gather_116 : decode b_M_gather 116 = .ok (.iload 7, 2) := by decide +kernel
theorem d_M_gather_118 : decode b_M_gather 118 = .ok (.iaload, 1) := by decide +kernel
theorem d_M_gather_119 : decode b_M_gather 119 = .ok (.iastore, 1) := by decide +kernel
theorem d_M_gather_120 : decode b_M_gather 120 = .ok (.aload_n 0, 1) := by decide +kernel
theorem d_M_gather_121 : decode b_M_gather 121 = .ok (.dup, 1) := by decide +kernel
theorem d_M_gather_122 : decode b_M_gather 122 = .ok (.getfield 64, 3) := by decide +kernel
theorem d_M_gather_125 : decode b_M_gather 125 = .ok (.iconst 1, 1) := by decide +kernel
theorem d_M_gather_126 : decode b_M_gather 126 = .ok (.iadd, 1) := by decide +kernel
theorem d_M_gather_127 : decode b_M_gather 127 = .ok (.putfield 64, 3) := by decide +kernel
theorem d_M_gather_130 : decode b_M_gather 130 = .ok (.iinc 7 1, 3) := by decide +kernel
theorem d_M_gather_133 : decode b_M_gather 133 = .ok (.goto (-36), 3) := by decide +kernel
theorem d_M_gather_136 : decode b_M_gather 136 = .ok (.iload 6, 2) := by decide +kernel
theorem d_M_gather_138 : decode b_M_gather 138 = .ok (.ireturn, 1) := by decide +kernel
theorem d_M_look_0 : decode b_M_look 0 = .ok (.aload_n 0, 1) := by decide +kernel
theorem d_M_look_1 : decode b_M_look 1 = .ok (.iconst 0, 1) := by decide +kernel
theorem d_M_look_2 : decode b_M_look 2 = .ok (.putfield 54, 3) := by decide +kernel
theorem d_M_look_5 : decode b_M_look 5 = .ok (.lconst 0, 1) := by decide +kernel
theorem d_M_look_6 : decode b_M_look 6 = .ok (.lstore_n 2, 1) := by decide +kernel
theorem d_M_look_7 : decode b_M_look 7 = .ok (.iconst 0, 1) := by decide +kernel
theorem d_M_look_8 : decode b_M_look 8 = .ok (.istore 4, 2) := by decide +kernel
theorem d_M_look_10 : decode b_M_look 10 = .ok (.iload 4, 2) := by decide +kernel
theorem d_M_look_12 : decode b_M_look 12 = .ok (.aload_n 0, 1) := by decide +kernel
theorem d_M_look_13 : decode b_M_look 13 = .ok (.getfield 57, 3) := by decide +kernel
theorem d_M_look_16 : decode b_M_look 16 = .ok (.if_icmp .ge 26, 3) := by decide +kernel
theorem d_M_look_19 : decode b_M_look 19 = .ok (.lload_n 2, 1) := by decide +kernel
theorem d_M_look_20 : decode b_M_look 20 = .ok (.aload_n 0, 1) := by decide +kernel
theorem d_M_look_21 : decode b_M_look 21 = .ok (.iload 4, 2) := by decide +kernel
theorem d_M_look_23 : decode b_M_look 23 = .ok (.invokevirtual 74, 3) := by decide +kernel
theorem d_M_look_26 : decode b_M_look 26 = .ok (.ifCond .eq 7, 3) := by decide +kernel
theorem d_M_look_29 : decode b_M_look 29 = .ok (.lconst 1, 1) := by decide +kernel
theorem d_M_look_30 : decode b_M_look 30 = .ok (.goto 4, 3) := by decide +kernel
theorem d_M_look_33 : decode b_M_look 33 = .ok (.lconst 0, 1) := by decide +kernel
theorem d_M_look_34 : decode b_M_look 34 = .ok (.ladd, 1) := by decide +kernel
theorem d_M_look_35 : decode b_M_look 35 = .ok (.lstore_n 2, 1) := by decide +kernel
theorem d_M_look_36 : decode b_M_look 36 = .ok (.iinc 4 1, 3) := by decide +kernel
theorem d_M_look_39 : decode b_M_look 39 = .ok (.goto (-29), 3) := by decide +kernel
theorem d_M_look_42 : decode b_M_look 42 = .ok (.iload_n 1, 1) := by decide +kernel
theorem d_M_look_43 : decode b_M_look 43 = .ok (.tableswitch 106 0 9 #[53, 58, 63, 69, 75, 77, 83, 89, 95, 100], 53) := by decide +kernel
theorem d_M_look_96 : decode b_M_look 96 = .ok (.aload_n 0, 1) := by decide +kernel
theorem d_M_look_97 : decode b_M_look 97 = .ok (.getfield 90, 3) := by decide +kernel
theorem d_M_look_100 : decode b_M_look 100 = .ok (.lreturn, 1) := by decide +kernel
theorem d_M_look_101 : decode b_M_look 101 = .ok (.aload_n 0, 1) := by decide +kernel
theorem d_M_look_102 : decode b_M_look 102 = .ok (.getfield 100, 3) := by decide +kernel
theorem d_M_look_105 : decode b_M_look 105 = .ok (.lreturn, 1) := by decide +kernel
theorem d_M_look_106 : decode b_M_look 106 = .ok (.aload_n 0, 1) := by decide +kernel
theorem d_M_look_107 : decode b_M_look 107 = .ok (.getfield 97, 3) := by decide +kernel
theorem d_M_look_110 : decode b_M_look 110 = .ok (.i2l, 1) := by decide +kernel
theorem d_M_look_111 : decode b_M_look 111 = .ok (.lreturn, 1) := by decide +kernel
theorem d_M_look_112 : decode b_M_look 112 = .ok (.aload_n 0, 1) := by decide +kernel
theorem d_M_look_113 : decode b_M_look 113 = .ok (.getfield 57, 3) := by decide +kernel
theorem d_M_look_116 : decode b_M_look 116 = .ok (.i2l, 1) := by decide +kernel
theorem d_M_look_117 : decode b_M_look 117 = .ok (.lreturn, 1) := by decide +kernel
theorem d_M_look_118 : decode b_M_look 118 = .ok (.lload_n 2, 1) := by decide +kernel
theorem d_M_look_119 : decode b_M_look 119 = .ok (.lreturn, 1) := by decide +kernel
theorem d_M_look_120 : decode b_M_look 120 = .ok (.aload_n 0, 1) := by decide +kernel
theorem d_M_look_121 : decode b_M_look 121 = .ok (.getfield 106, 3) := by decide +kernel
theorem d_M_look_124 : decode b_M_look 124 = .ok (.i2l, 1) := by decide +kernel
theorem d_M_look_125 : decode b_M_look 125 = .ok (.lreturn, 1) := by decide +kernel
theorem d_M_look_126 : decode b_M_look 126 = .ok (.aload_n 0, 1) := by decide +kernel
theorem d_M_look_127 : decode b_M_look 127 = .ok (.getfield 64, 3) := by decide +kernel
theorem d_M_look_130 : decode b_M_look 130 = .ok (.i2l, 1) := by decide +kernel
theorem d_M_look_131 : decode b_M_look 131 = .ok (.lreturn, 1) := by decide +kernel
theorem d_M_look_132 : decode b_M_look 132 = .ok (.aload_n 0, 1) := by decide +kernel
theorem d_M_look_133 : decode b_M_look 133 = .ok (.getfield 67, 3) := by decide +kernel
theorem d_M_look_136 : decode b_M_look 136 = .ok (.i2l, 1) := by decide +kernel
theorem d_M_look_137 : decode b_M_look 137 = .ok (.lreturn, 1) := by decide +kernel
theorem d_M_look_138 : decode b_M_look 138 = .ok (.aload_n 0, 1) := by decide +kernel
theorem d_M_look_139 : decode b_M_look 139 = .ok (.getfield 70, 3) := by decide +kernel
theorem d_M_look_142 : decode b_M_look 142 = .ok (.lreturn, 1) := by decide +kernel
theorem d_M_look_143 : decode b_M_look 143 = .ok (.aload_n 0, 1) := by decide +kernel
theorem d_M_look_144 : decode b_M_look 144 = .ok (.getfield 103, 3) := by decide +kernel
theorem d_M_look_147 : decode b_M_look 147 = .ok (.i2l, 1) := by decide +kernel
theorem d_M_look_148 : decode b_M_look 148 = .ok (.lreturn, 1) := by decide +kernel
theorem d_M_look_149 : decode b_M_look 149 = .ok (.ldc2_w 86, 3) := by decide +kernel
theorem d_M_look_152 : decode b_M_look 152 = .ok (.lreturn, 1) := by decide +kernel
