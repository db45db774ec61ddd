theorem d_K_init_0 : decode b_K_init 0 = .ok (.aload_n 0, 1) := by decide +kernel
theorem d_K_init_1 : decode b_K_init 1 = .ok (.invokespecial 1, 3) := by decide +kernel
theorem d_K_init_4 : decode b_K_init 4 = .ok (.aload_n 0, 1) := by decide +kernel
theorem d_K_init_5 : decode b_K_init 5 = .ok (.new 7, 3) := by decide +kernel
theorem d_K_init_8 : decode b_K_init 8 = .ok (.dup, 1) := by decide +kernel
theorem d_K_init_9 : decode b_K_init 9 = .ok (.invokespecial 9, 3) := by decide +kernel
theorem d_K_init_12 : decode b_K_init 12 = .ok (.putfield 10, 3) := by decide +kernel
theorem d_K_init_15 : decode b_K_init 15 = .ok (.aload_n 0, 1) := by decide +kernel
theorem d_K_init_16 : decode b_K_init 16 = .ok (.new 16, 3) := by decide +kernel
theorem d_K_init_19 : decode b_K_init 19 = .ok (.dup, 1) := by decide +kernel
theorem d_K_init_20 : decode b_K_init 20 = .ok (.invokespecial 18, 3) := by decide +kernel
theorem d_K_init_23 : decode b_K_init 23 = .ok (.putfield 19, 3) := by decide +kernel
theorem d_K_init_26 : decode b_K_init 26 = .ok (.aload_n 0, 1) := by decide +kernel
theorem d_K_init_27 : decode b_K_init 27 = .ok (.new 23, 3) := by decide +kernel
theorem d_K_init_30 : decode b_K_init 30 = .ok (.dup, 1) := by decide +kernel
theorem d_K_init_31 : decode b_K_init 31 = .ok (.iconst 1, 1) := by decide +kernel
theorem d_K_init_32 : decode b_K_init 32 = .ok (.bipush 64, 2) := by decide +kernel
theorem d_K_init_34 : decode b_K_init 34 = .ok (.iload_n 1, 1) := by decide +kernel
theorem d_K_init_35 : decode b_K_init 35 = .ok (.invokestatic 25, 3) := by decide +kernel
theorem d_K_init_38 : decode b_K_init 38 = .ok (.invokestatic 31, 3) := by decide +kernel
theorem d_K_init_41 : decode b_K_init 41 = .ok (.invokespecial 34, 3) := by decide +kernel
theorem d_K_init_44 : decode b_K_init 44 = .ok (.putfield 37, 3) := by decide +kernel
theorem d_K_init_47 : decode b_K_init 47 = .ok (.return_, 1) := by decide +kernel
theorem d_K_spend_0 : decode b_K_spend 0 = .ok (.aload_n 0, 1) := by decide +kernel
theorem d_K_spend_1 : decode b_K_spend 1 = .ok (.getfield 10, 3) := by decide +kernel
theorem d_K_spend_4 : decode b_K_spend 4 = .ok (.iload_n 1, 1) := by decide +kernel
theorem d_K_spend_5 : decode b_K_spend 5 = .ok (.invokevirtual 41, 3) := by decide +kernel
theorem d_K_spend_8 : decode b_K_spend 8 = .ok (.ifCond .eq 25, 3) := by decide +kernel
theorem d_K_spend_11 : decode b_K_spend 11 = .ok (.aload_n 0, 1) := by decide +kernel
theorem d_K_spend_12 : decode b_K_spend 12 = .ok (.getfield 19, 3) := by decide +kernel
theorem d_K_spend_15 : decode b_K_spend 15 = .ok (.iload_n 1, 1) := by decide +kernel
theorem d_K_spend_16 : decode b_K_spend 16 = .ok (.invokevirtual 45, 3) := by decide +kernel
theorem d_K_spend_19 : decode b_K_spend 19 = .ok (.ifCond .ne 14, 3) := by decide +kernel
theorem d_K_spend_22 : decode b_K_spend 22 = .ok (.aload_n 0, 1) := by decide +kernel
theorem d_K_spend_23 : decode b_K_spend 23 = .ok (.getfield 19, 3) := by decide +kernel
theorem d_K_spend_26 : decode b_K_spend 26 = .ok (.invokevirtual 48, 3) := by decide +kernel
theorem d_K_spend_29 : decode b_K_spend 29 = .ok (.iconst 1, 1) := by decide +kernel
theorem d_K_spend_30 : decode b_K_spend 30 = .ok (.if_icmp .ge 5, 3) := by decide +kernel
theorem d_K_spend_33 : decode b_K_spend 33 = .ok (.iconst 0, 1) := by decide +kernel
theorem d_K_spend_34 : decode b_K_spend 34 = .ok (.ireturn, 1) := by decide +kernel
theorem d_K_spend_35 : decode b_K_spend 35 = .ok (.aload_n 0, 1) := by decide +kernel
theorem d_K_spend_36 : decode b_K_spend 36 = .ok (.getfield 19, 3) := by decide +kernel
theorem d_K_spend_39 : decode b_K_spend 39 = .ok (.iconst 0, 1) := by decide +kernel
theorem d_K_spend_40 : decode b_K_spend 40 = .ok (.iload_n 1, 1) := by decide +kernel
theorem d_K_spend_41 : decode b_K_spend 41 = .ok (.invokevirtual 52, 3) := by decide +kernel
theorem d_K_spend_44 : decode b_K_spend 44 = .ok (.aload_n 0, 1) := by decide +kernel
theorem d_K_spend_45 : decode b_K_spend 45 = .ok (.getfield 19, 3) := by decide +kernel
theorem d_K_spend_48 : decode b_K_spend 48 = .ok (.iconst 1, 1) := by decide +kernel
theorem d_K_spend_49 : decode b_K_spend 49 = .ok (.invokevirtual 56, 3) := by decide +kernel
theorem d_K_spend_52 : decode b_K_spend 52 = .ok (.iconst 1, 1) := by decide +kernel
theorem d_K_spend_53 : decode b_K_spend 53 = .ok (.ireturn, 1) := by decide +kernel
theorem d_K_make_0 : decode b_K_make 0 = .ok (.iload_n 1, 1) := by decide +kernel
theorem d_K_make_1 : decode b_K_make 1 = .ok (.ifCond .lt 27, 3) := by decide +kernel
theorem d_K_make_4 : decode b_K_make 4 = .ok (.iload_n 1, 1) := by decide +kernel
theorem d_K_make_5 : decode b_K_make 5 = .ok (.sipush 256, 3) := by decide +kernel
theorem d_K_make_8 : decode b_K_make 8 = .ok (.if_icmp .ge 20, 3) := by decide +kernel
theorem d_K_make_11 : decode b_K_make 11 = .ok (.lload_n 2, 1) := by decide +kernel
theorem d_K_make_12 : decode b_K_make 12 = .ok (.lconst 1, 1) := by decide +kernel
theorem d_K_make_13 : decode b_K_make 13 = .ok (.lcmp, 1) := by decide +kernel
theorem d_K_make_14 : decode b_K_make 14 = .ok (.ifCond .lt 14, 3) := by decide +kernel
theorem d_K_make_17 : decode b_K_make 17 = .ok (.aload_n 0, 1) := by decide +kernel
theorem d_K_make_18 : decode b_K_make 18 = .ok (.getfield 19, 3) := by decide +kernel
theorem d_K_make_21 : decode b_K_make 21 = .ok (.invokevirtual 59, 3) := by decide +kernel
theorem d_K_make_24 : decode b_K_make 24 = .ok (.iconst 1, 1) := by decide +kernel
theorem d_K_make_25 : decode b_K_make 25 = .ok (.if_icmp .ge 5, 3) := by decide +kernel
theorem d_K_make_28 : decode b_K_make 28 = .ok (.iconst 0, 1) := by decide +kernel
theorem d_K_make_29 : decode b_K_make 29 = .ok (.ireturn, 1) := by decide +kernel
theorem d_K_make_30 : decode b_K_make 30 = .ok (.aload_n 0, 1) := by decide +kernel
theorem d_K_make_31 : decode b_K_make 31 = .ok (.getfield 19, 3) := by decide +kernel
theorem d_K_make_34 : decode b_K_make 34 = .ok (.iload_n 1, 1) := by decide +kernel
theorem d_K_make_35 : decode b_K_make 35 = .ok (.lload_n 2, 1) := by decide +kernel
theorem d_K_make_36 : decode b_K_make 36 = .ok (.lload 4, 2) := by decide +kernel
theorem d_K_make_38 : decode b_K_make 38 = .ok (.invokevirtual 62, 3) := by decide +kernel
theorem d_K_make_41 : decode b_K_make 41 = .ok (.iconst 1, 1) := by decide +kernel
theorem d_K_make_42 : decode b_K_make 42 = .ok (.ireturn, 1) := by decide +kernel
theorem d_K_mint_0 : decode b_K_mint 0 = .ok (.aload_n 0, 1) := by decide +kernel
theorem d_K_mint_1 : decode b_K_mint 1 = .ok (.getfield 19, 3) := by decide +kernel
theorem d_K_mint_4 : decode b_K_mint 4 = .ok (.lload_n 1, 1) := by decide +kernel
theorem d_K_mint_5 : decode b_K_mint 5 = .ok (.putfield 66, 3) := by decide +kernel
theorem d_K_mint_8 : decode b_K_mint 8 = .ok (.return_, 1) := by decide +kernel
theorem d_K_drop_0 : decode b_K_drop 0 = .ok (.aload_n 0, 1) := by decide +kernel
theorem d_K_drop_1 : decode b_K_drop 1 = .ok (.getfield 19, 3) := by decide +kernel
theorem d_K_drop_4 : decode b_K_drop 4 = .ok (.invokevirtual 70, 3) := by decide +kernel
theorem d_K_drop_7 : decode b_K_drop 7 = .ok (.return_, 1) := by decide +kernel
theorem d_K_apply_0 : decode b_K_apply 0 = .ok (.aload_n 0, 1) := by decide +kernel
theorem d_K_apply_1 : decode b_K_apply 1 = .ok (.getfield 19, 3) := by decide +kernel
theorem d_K_apply_4 : decode b_K_apply 4 = .ok (.getfield 73, 3) := by decide +kernel
theorem d_K_apply_7 : decode b_K_apply 7 = .ok (.ifCond .ne 17, 3) := by decide +kernel
theorem d_K_apply_10 : decode b_K_apply 10 = .ok (.aload_n 0, 1) := by decide +kernel
theorem d_K_apply_11 : decode b_K_apply 11 = .ok (.getfield 19, 3) := by decide +kernel
theorem d_K_apply_14 : decode b_K_apply 14 = .ok (.getfield 77, 3) := by decide +kernel
theorem d_K_apply_17 : decode b_K_apply 17 = .ok (.ifCond .ne 7, 3) := by decide +kernel
theorem d_K_apply_20 : decode b_K_apply 20 = .ok (.ldc2_w 80, 3) := by decide +kernel
theorem d_K_apply_23 : decode b_K_apply 23 = .ok (.lreturn, 1) := by decide +kernel
theorem d_K_apply_24 : decode b_K_apply 24 = .ok (.aload_n 0, 1) := by decide +kernel
theorem d_K_apply_25 : decode b_K_apply 25 = .ok (.invokevirtual 82, 3) := by decide +kernel
theorem d_K_apply_28 : decode b_K_apply 28 = .ok (.lstore_n 1, 1) := by decide +kernel
theorem d_K_apply_29 : decode b_K_apply 29 = .ok (.lload_n 1, 1) := by decide +kernel
theorem d_K_apply_30 : decode b_K_apply 30 = .ok (.lconst 0, 1) := by decide +kernel
theorem d_K_apply_31 : decode b_K_apply 31 = .ok (.lcmp, 1) := by decide +kernel
theorem d_K_apply_32 : decode b_K_apply 32 = .ok (.ifCond .ge 7, 3) := by decide +kernel
theorem d_K_apply_35 : decode b_K_apply 35 = .ok (.ldc2_w 86, 3) := by decide +kernel
theorem d_K_apply_38 : decode b_K_apply 38 = .ok (.lreturn, 1) := by decide +kernel
theorem d_K_apply_39 : decode b_K_apply 39 = .ok (.aload_n 0, 1) := by decide +kernel
theorem d_K_apply_40 : decode b_K_apply 40 = .ok (.getfield 19, 3) := by decide +kernel
theorem d_K_apply_43 : decode b_K_apply 43 = .ok (.getfield 77, 3) := by decide +kernel
theorem d_K_apply_46 : decode b_K_apply 46 = .ok (.aload_n 0, 1) := by decide +kernel
theorem d_K_apply_47 : decode b_K_apply 47 = .ok (.getfield 10, 3) := by decide +kernel
theorem d_K_apply_50 : decode b_K_apply 50 = .ok (.invokevirtual 88, 3) := by decide +kernel
theorem d_K_apply_53 : decode b_K_apply 53 = .ok (.if_icmp .le 7, 3) := by decide +kernel
theorem d_K_apply_56 : decode b_K_apply 56 = .ok (.ldc2_w 91, 3) := by decide +kernel
theorem d_K_apply_59 : decode b_K_apply 59 = .ok (.lreturn, 1) := by decide +kernel
theorem d_K_apply_60 : decode b_K_apply 60 = .ok (.aload_n 0, 1) := by decide +kernel
theorem d_K_apply_61 : decode b_K_apply 61 = .ok (.dup, 1) := by decide +kernel
theorem d_K_apply_62 : decode b_K_apply 62 = .ok (.getfield 93, 3) := by decide +kernel
theorem d_K_apply_65 : decode b_K_apply 65 = .ok (.aload_n 0, 1) := by decide +kernel
theorem d_K_apply_66 : decode b_K_apply 66 = .ok (.getfield 19, 3) := by decide +kernel
theorem d_K_apply_69 : decode b_K_apply 69 = .ok (.getfield 66, 3) := by decide +kernel
theorem d_K_apply_72 : decode b_K_apply 72 = .ok (.ladd, 1) := by decide +kernel
theorem d_K_apply_73 : decode b_K_apply 73 = .ok (.putfield 93, 3) := by decide +kernel
theorem d_K_apply_76 : decode b_K_apply 76 = .ok (.aload_n 0, 1) := by decide +kernel
theorem d_K_apply_77 : decode b_K_apply 77 = .ok (.dup, 1) := by decide +kernel
theorem d_K_apply_78 : decode b_K_apply 78 = .ok (.getfield 96, 3) := by decide +kernel
theorem d_K_apply_81 : decode b_K_apply 81 = .ok (.lload_n 1, 1) := by decide +kernel
theorem d_K_apply_82 : decode b_K_apply 82 = .ok (.ladd, 1) := by decide +kernel
theorem d_K_apply_83 : decode b_K_apply 83 = .ok (.putfield 96, 3) := by decide +kernel
theorem d_K_apply_86 : decode b_K_apply 86 = .ok (.aload_n 0, 1) := by decide +kernel
theorem d_K_apply_87 : decode b_K_apply 87 = .ok (.dup, 1) := by decide +kernel
theorem d_K_apply_88 : decode b_K_apply 88 = .ok (.getfield 99, 3) := by decide +kernel
theorem d_K_apply_91 : decode b_K_apply 91 = .ok (.iconst 1, 1) := by decide +kernel
theorem d_K_apply_92 : decode b_K_apply 92 = .ok (.iadd, 1) := by decide +kernel
theorem d_K_apply_93 : decode b_K_apply 93 = .ok (.putfield 99, 3) := by decide +kernel
theorem d_K_apply_96 : decode b_K_apply 96 = .ok (.aload_n 0, 1) := by decide +kernel
theorem d_K_apply_97 : decode b_K_apply 97 = .ok (.invokevirtual 102, 3) := by decide +kernel
theorem d_K_apply_100 : decode b_K_apply 100 = .ok (.aload_n 0, 1) := by decide +kernel
theorem d_K_apply_101 : decode b_K_apply 101 = .ok (.getfield 19, 3) := by decide +kernel
theorem d_K_apply_104 : decode b_K_apply 104 = .ok (.invokevirtual 70, 3) := by decide +kernel
theorem d_K_apply_107 : decode b_K_apply 107 = .ok (.lload_n 1, 1) := by decide +kernel
theorem d_K_apply_108 : decode b_K_apply 108 = .ok (.lreturn, 1) := by decide +kernel
theorem d_K_close_0 : decode b_K_close 0 = .ok (.aload_n 0, 1) := by decide +kernel
theorem d_K_close_1 : decode b_K_close 1 = .ok (.getfield 37, 3) := by decide +kernel
theorem d_K_close_4 : decode b_K_close 4 = .ok (.aload_n 0, 1) := by decide +kernel
theorem d_K_close_5 : decode b_K_close 5 = .ok (.getfield 93, 3) := by decide +kernel
theorem d_K_close_8 : decode b_K_close 8 = .ok (.aload_n 0, 1) := by decide +kernel
theorem d_K_close_9 : decode b_K_close 9 = .ok (.getfield 96, 3) := by decide +kernel
theorem d_K_close_12 : decode b_K_close 12 = .ok (.aload_n 0, 1) := by decide +kernel
theorem d_K_close_13 : decode b_K_close 13 = .ok (.getfield 99, 3) := by decide +kernel
theorem d_K_close_16 : decode b_K_close 16 = .ok (.invokevirtual 105, 3) := by decide +kernel
theorem d_K_close_19 : decode b_K_close 19 = .ok (.aload_n 0, 1) := by decide +kernel
theorem d_K_close_20 : decode b_K_close 20 = .ok (.getfield 37, 3) := by decide +kernel
theorem d_K_close_23 : decode b_K_close 23 = .ok (.getfield 109, 3) := by decide +kernel
theorem d_K_close_26 : decode b_K_close 26 = .ok (.ireturn, 1) := by decide +kernel
theorem d_K_undo_0 : decode b_K_undo 0 = .ok (.iload_n 1, 1) := by decide +kernel
theorem d_K_undo_1 : decode b_K_undo 1 = .ok (.ifCond .lt 14, 3) := by decide +kernel
theorem d_K_undo_4 : decode b_K_undo 4 = .ok (.iload_n 1, 1) := by decide +kernel
theorem d_K_undo_5 : decode b_K_undo 5 = .ok (.aload_n 0, 1) := by decide +kernel
theorem d_K_undo_6 : decode b_K_undo 6 = .ok (.getfield 37, 3) := by decide +kernel
theorem d_K_undo_9 : decode b_K_undo 9 = .ok (.getfield 112, 3) := by decide +kernel
theorem d_K_undo_12 : decode b_K_undo 12 = .ok (.if_icmp .le 5, 3) := by decide +kernel
theorem d_K_undo_15 : decode b_K_undo 15 = .ok (.iconst (-1), 1) := by decide +kernel
theorem d_K_undo_16 : decode b_K_undo 16 = .ok (.ireturn, 1) := by decide +kernel
theorem d_K_undo_17 : decode b_K_undo 17 = .ok (.aload_n 0, 1) := by decide +kernel
theorem d_K_undo_18 : decode b_K_undo 18 = .ok (.getfield 37, 3) := by decide +kernel
theorem d_K_undo_21 : decode b_K_undo 21 = .ok (.iload_n 1, 1) := by decide +kernel
theorem d_K_undo_22 : decode b_K_undo 22 = .ok (.invokevirtual 115, 3) := by decide +kernel
theorem d_K_undo_25 : decode b_K_undo 25 = .ok (.aload_n 0, 1) := by decide +kernel
theorem d_K_undo_26 : decode b_K_undo 26 = .ok (.aload_n 0, 1) := by decide +kernel
theorem d_K_undo_27 : decode b_K_undo 27 = .ok (.getfield 37, 3) := by decide +kernel
theorem d_K_undo_30 : decode b_K_undo 30 = .ok (.invokevirtual 118, 3) := by decide +kernel
theorem d_K_undo_33 : decode b_K_undo 33 = .ok (.putfield 93, 3) := by decide +kernel
theorem d_K_undo_36 : decode b_K_undo 36 = .ok (.aload_n 0, 1) := by decide +kernel
theorem d_K_undo_37 : decode b_K_undo 37 = .ok (.aload_n 0, 1) := by decide +kernel
theorem d_K_undo_38 : decode b_K_undo 38 = .ok (.getfield 37, 3) := by decide +kernel
theorem d_K_undo_41 : decode b_K_undo 41 = .ok (.invokevirtual 121, 3) := by decide +kernel
theorem d_K_undo_44 : decode b_K_undo 44 = .ok (.putfield 96, 3) := by decide +kernel
theorem d_K_undo_47 : decode b_K_undo 47 = .ok (.aload_n 0, 1) := by decide +kernel
theorem d_K_undo_48 : decode b_K_undo 48 = .ok (.aload_n 0, 1) := by decide +kernel
theorem d_K_undo_49 : decode b_K_undo 49 = .ok (.getfield 37, 3) := by decide +kernel
theorem d_K_undo_52 : decode b_K_undo 52 = .ok (.invokevirtual 124, 3) := by decide +kernel
theorem d_K_undo_55 : decode b_K_undo 55 = .ok (.putfield 99, 3) := by decide +kernel
theorem d_K_undo_58 : decode b_K_undo 58 = .ok (.aload_n 0, 1) := by decide +kernel
theorem d_K_undo_59 : decode b_K_undo 59 = .ok (.getfield 10, 3) := by decide +kernel
theorem d_K_undo_62 : decode b_K_undo 62 = .ok (.aload_n 0, 1) := by decide +kernel
theorem d_K_undo_63 : decode b_K_undo 63 = .ok (.getfield 37, 3) := by decide +kernel
theorem d_K_undo_66 : decode b_K_undo 66 = .ok (.getfield 109, 3) := by decide +kernel
theorem d_K_undo_69 : decode b_K_undo 69 = .ok (.invokevirtual 127, 3) := by decide +kernel
theorem d_K_undo_72 : decode b_K_undo 72 = .ok (.aload_n 0, 1) := by decide +kernel
theorem d_K_undo_73 : decode b_K_undo 73 = .ok (.getfield 19, 3) := by decide +kernel
theorem d_K_undo_76 : decode b_K_undo 76 = .ok (.invokevirtual 70, 3) := by decide +kernel
theorem d_K_undo_79 : decode b_K_undo 79 = .ok (.aload_n 0, 1) := by decide +kernel
theorem d_K_undo_80 : decode b_K_undo 80 = .ok (.getfield 37, 3) := by decide +kernel
theorem d_K_undo_83 : decode b_K_undo 83 = .ok (.getfield 109, 3) := by decide +kernel
theorem d_K_undo_86 : decode b_K_undo 86 = .ok (.ireturn, 1) := by decide +kernel
theorem d_K_output_0 : decode b_K_output 0 = .ok (.aload_n 0, 1) := by decide +kernel
theorem d_K_output_1 : decode b_K_output 1 = .ok (.getfield 10, 3) := by decide +kernel
theorem d_K_output_4 : decode b_K_output 4 = .ok (.iload_n 1, 1) := by decide +kernel
theorem d_K_output_5 : decode b_K_output 5 = .ok (.invokevirtual 130, 3) := by decide +kernel
theorem d_K_output_8 : decode b_K_output 8 = .ok (.ifCond .ne 5, 3) := by decide +kernel
theorem d_K_output_11 : decode b_K_output 11 = .ok (.iconst (-1), 1) := by decide +kernel
theorem d_K_output_12 : decode b_K_output 12 = .ok (.ireturn, 1) := by decide +kernel
theorem d_K_output_13 : decode b_K_output 13 = .ok (.iload_n 2, 1) := by decide +kernel
theorem d_K_output_14 : decode b_K_output 14 = .ok (.tableswitch 77 0 3 #[30, 40, 57, 67], 30) := by decide +kernel
theorem d_K_output_44 : decode b_K_output 44 = .ok (.aload_n 0, 1) := by decide +kernel
theorem d_K_output_45 : decode b_K_output 45 = .ok (.getfield 10, 3) := by decide +kernel
theorem d_K_output_48 : decode b_K_output 48 = .ok (.getfield 133, 3) := by decide +kernel
theorem d_K_output_51 : decode b_K_output 51 = .ok (.iload_n 1, 1) := by decide +kernel
theorem d_K_output_52 : decode b_K_output 52 = .ok (.iaload, 1) := by decide +kernel
theorem d_K_output_53 : decode b_K_output 53 = .ok (.ireturn, 1) := by decide +kernel
theorem d_K_output_54 : decode b_K_output 54 = .ok (.aload_n 0, 1) := by decide +kernel
theorem d_K_output_55 : decode b_K_output 55 = .ok (.getfield 10, 3) := by decide +kernel
theorem d_K_output_58 : decode b_K_output 58 = .ok (.iload_n 1, 1) := by decide +kernel
theorem d_K_output_59 : decode b_K_output 59 = .ok (.invokevirtual 41, 3) := by decide +kernel
theorem d_K_output_62 : decode b_K_output 62 = .ok (.ifCond .eq 7, 3) := by decide +kernel
theorem d_K_output_65 : decode b_K_output 65 = .ok (.iconst 1, 1) := by decide +kernel
theorem d_K_output_66 : decode b_K_output 66 = .ok (.goto 4, 3) := by decide +kernel
theorem d_K_output_69 : decode b_K_output 69 = .ok (.iconst 0, 1) := by decide +kernel
theorem d_K_output_70 : decode b_K_output 70 = .ok (.ireturn, 1) := by decide +kernel
theorem d_K_output_71 : decode b_K_output 71 = .ok (.aload_n 0, 1) := by decide +kernel
theorem d_K_output_72 : decode b_K_output 72 = .ok (.getfield 10, 3) := by decide +kernel
theorem d_K_output_75 : decode b_K_output 75 = .ok (.getfield 137, 3) := by decide +kernel
theorem d_K_output_78 : decode b_K_output 78 = .ok (.iload_n 1, 1) := by decide +kernel
theorem d_K_output_79 : decode b_K_output 79 = .ok (.iaload, 1) := by decide +kernel
theorem d_K_output_80 : decode b_K_output 80 = .ok (.ireturn, 1) := by decide +kernel
theorem d_K_output_81 : decode b_K_output 81 = .ok (.aload_n 0, 1) := by decide +kernel
theorem d_K_output_82 : decode b_K_output 82 = .ok (.getfield 10, 3) := by decide +kernel
theorem d_K_output_85 : decode b_K_output 85 = .ok (.getfield 140, 3) := by decide +kernel
theorem d_K_output_88 : decode b_K_output 88 = .ok (.iload_n 1, 1) := by decide +kernel
theorem d_K_output_89 : decode b_K_output 89 = .ok (.iaload, 1) := by decide +kernel
theorem d_K_output_90 : decode b_K_output 90 = .ok (.ireturn, 1) := by decide +kernel
theorem d_K_output_91 : decode b_K_output 91 = .ok (.iconst (-1), 1) := by decide +kernel
theorem d_K_output_92 : decode b_K_output 92 = .ok (.ireturn, 1) := by decide +kernel
theorem d_K_amount_0 : decode b_K_amount 0 = .ok (.aload_n 0, 1) := by decide +kernel
theorem d_K_amount_1 : decode b_K_amount 1 = .ok (.getfield 10, 3) := by decide +kernel
theorem d_K_amount_4 : decode b_K_amount 4 = .ok (.iload_n 1, 1) := by decide +kernel
theorem d_K_amount_5 : decode b_K_amount 5 = .ok (.invokevirtual 143, 3) := by decide +kernel
theorem d_K_amount_8 : decode b_K_amount 8 = .ok (.lreturn, 1) := by decide +kernel
theorem d_K_tag_0 : decode b_K_tag 0 = .ok (.aload_n 0, 1) := by decide +kernel
theorem d_K_tag_1 : decode b_K_tag 1 = .ok (.getfield 10, 3) := by decide +kernel
theorem d_K_tag_4 : decode b_K_tag 4 = .ok (.iload_n 1, 1) := by decide +kernel
theorem d_K_tag_5 : decode b_K_tag 5 = .ok (.invokevirtual 130, 3) := by decide +kernel
theorem d_K_tag_8 : decode b_K_tag 8 = .ok (.ifCond .eq 15, 3) := by decide +kernel
theorem d_K_tag_11 : decode b_K_tag 11 = .ok (.aload_n 0, 1) := by decide +kernel
theorem d_K_tag_12 : decode b_K_tag 12 = .ok (.getfield 10, 3) := by decide +kernel
theorem d_K_tag_15 : decode b_K_tag 15 = .ok (.getfield 147, 3) := by decide +kernel
theorem d_K_tag_18 : decode b_K_tag 18 = .ok (.iload_n 1, 1) := by decide +kernel
theorem d_K_tag_19 : decode b_K_tag 19 = .ok (.laload, 1) := by decide +kernel
theorem d_K_tag_20 : decode b_K_tag 20 = .ok (.goto 4, 3) := by decide +kernel
theorem d_K_tag_23 : decode b_K_tag 23 = .ok (.lconst 0, 1) := by decide +kernel
theorem d_K_tag_24 : decode b_K_tag 24 = .ok (.lreturn, 1) := by decide +kernel
theorem d_K_balance_0 : decode b_K_balance 0 = .ok (.lconst 0, 1) := by decide +kernel
theorem d_K_balance_1 : decode b_K_balance 1 = .ok (.lstore_n 2, 1) := by decide +kernel
theorem d_K_balance_2 : decode b_K_balance 2 = .ok (.iconst 0, 1) := by decide +kernel
theorem d_K_balance_3 : decode b_K_balance 3 = .ok (.istore 4, 2) := by decide +kernel
theorem d_K_balance_5 : decode b_K_balance 5 = .ok (.iload 4, 2) := by decide +kernel
theorem d_K_balance_7 : decode b_K_balance 7 = .ok (.aload_n 0, 1) := by decide +kernel
theorem d_K_balance_8 : decode b_K_balance 8 = .ok (.getfield 10, 3) := by decide +kernel
theorem d_K_balance_11 : decode b_K_balance 11 = .ok (.getfield 151, 3) := by decide +kernel
theorem d_K_balance_14 : decode b_K_balance 14 = .ok (.if_icmp .ge 34, 3) := by decide +kernel
theorem d_K_balance_17 : decode b_K_balance 17 = .ok (.aload_n 0, 1) := by decide +kernel
theorem d_K_balance_18 : decode b_K_balance 18 = .ok (.getfield 10, 3) := by decide +kernel
theorem d_K_balance_21 : decode b_K_balance 21 = .ok (.iload_n 1, 1) := by decide +kernel
theorem d_K_balance_22 : decode b_K_balance 22 = .ok (.iload 4, 2) := by decide +kernel
theorem d_K_balance_24 : decode b_K_balance 24 = .ok (.invokevirtual 154, 3) := by decide +kernel
theorem d_K_balance_27 : decode b_K_balance 27 = .ok (.ifCond .eq 15, 3) := by decide +kernel
theorem d_K_balance_30 : decode b_K_balance 30 = .ok (.lload_n 2, 1) := by decide +kernel
theorem d_K_balance_31 : decode b_K_balance 31 = .ok (.aload_n 0, 1) := by decide +kernel
theorem d_K_balance_32 : decode b_K_balance 32 = .ok (.getfield 10, 3) := by decide +kernel
theorem d_K_balance_35 : decode b_K_balance 35 = .ok (.iload 4, 2) := by decide +kernel
theorem d_K_balance_37 : decode b_K_balance 37 = .ok (.invokevirtual 143, 3) := by decide +kernel
theorem d_K_balance_40 : decode b_K_balance 40 = .ok (.ladd, 1) := by decide +kernel
theorem d_K_balance_41 : decode b_K_balance 41 = .ok (.lstore_n 2, 1) := by decide +kernel
theorem d_K_balance_42 : decode b_K_balance 42 = .ok (.iinc 4 1, 3) := by decide +kernel
theorem d_K_balance_45 : decode b_K_balance 45 = .ok (.goto (-40), 3) := by decide +kernel
theorem d_K_balance_48 : decode b_K_balance 48 = .ok (.lload_n 2, 1) := by decide +kernel
theorem d_K_balance_49 : decode b_K_balance 49 = .ok (.lreturn, 1) := by decide +kernel
theorem d_K_count_0 : decode b_K_count 0 = .ok (.iconst 0, 1) := by decide +kernel
theorem d_K_count_1 : decode b_K_count 1 = .ok (.istore_n 2, 1) := by decide +kernel
theorem d_K_count_2 : decode b_K_count 2 = .ok (.iconst 0, 1) := by decide +kernel
theorem d_K_count_3 : decode b_K_count 3 = .ok (.istore_n 3, 1) := by decide +kernel
theorem d_K_count_4 : decode b_K_count 4 = .ok (.iload_n 3, 1) := by decide +kernel
theorem d_K_count_5 : decode b_K_count 5 = .ok (.aload_n 0, 1) := by decide +kernel
theorem d_K_count_6 : decode b_K_count 6 = .ok (.getfield 10, 3) := by decide +kernel
theorem d_K_count_9 : decode b_K_count 9 = .ok (.getfield 151, 3) := by decide +kernel
theorem d_K_count_12 : decode b_K_count 12 = .ok (.if_icmp .ge 24, 3) := by decide +kernel
theorem d_K_count_15 : decode b_K_count 15 = .ok (.aload_n 0, 1) := by decide +kernel
theorem d_K_count_16 : decode b_K_count 16 = .ok (.getfield 10, 3) := by decide +kernel
theorem d_K_count_19 : decode b_K_count 19 = .ok (.iload_n 1, 1) := by decide +kernel
theorem d_K_count_20 : decode b_K_count 20 = .ok (.iload_n 3, 1) := by decide +kernel
theorem d_K_count_21 : decode b_K_count 21 = .ok (.invokevirtual 154, 3) := by decide +kernel
theorem d_K_count_24 : decode b_K_count 24 = .ok (.ifCond .eq 6, 3) := by decide +kernel
theorem d_K_count_27 : decode b_K_count 27 = .ok (.iinc 2 1, 3) := by decide +kernel
theorem d_K_count_30 : decode b_K_count 30 = .ok (.iinc 3 1, 3) := by decide +kernel
theorem d_K_count_33 : decode b_K_count 33 = .ok (.goto (-29), 3) := by decide +kernel
theorem d_K_count_36 : decode b_K_count 36 = .ok (.iload_n 2, 1) := by decide +kernel
theorem d_K_count_37 : decode b_K_count 37 = .ok (.ireturn, 1) := by decide +kernel
theorem d_K_nth_0 : decode b_K_nth 0 = .ok (.iconst 0, 1) := by decide +kernel
theorem d_K_nth_1 : decode b_K_nth 1 = .ok (.istore_n 3, 1) := by decide +kernel
theorem d_K_nth_2 : decode b_K_nth 2 = .ok (.iconst 0, 1) := by decide +kernel
theorem d_K_nth_3 : decode b_K_nth 3 = .ok (.istore 4, 2) := by decide +kernel
theorem d_K_nth_5 : decode b_K_nth 5 = .ok (.iload 4, 2) := by decide +kernel
theorem d_K_nth_7 : decode b_K_nth 7 = .ok (.aload_n 0, 1) := by decide +kernel
theorem d_K_nth_8 : decode b_K_nth 8 = .ok (.getfield 10, 3) := by decide +kernel
theorem d_K_nth_11 : decode b_K_nth 11 = .ok (.getfield 151, 3) := by decide +kernel
theorem d_K_nth_14 : decode b_K_nth 14 = .ok (.if_icmp .ge 33, 3) := by decide +kernel
theorem d_K_nth_17 : decode b_K_nth 17 = .ok (.aload_n 0, 1) := by decide +kernel
theorem d_K_nth_18 : decode b_K_nth 18 = .ok (.getfield 10, 3) := by decide +kernel
theorem d_K_nth_21 : decode b_K_nth 21 = .ok (.iload_n 1, 1) := by decide +kernel
theorem d_K_nth_22 : decode b_K_nth 22 = .ok (.iload 4, 2) := by decide +kernel
theorem d_K_nth_24 : decode b_K_nth 24 = .ok (.invokevirtual 154, 3) := by decide +kernel
theorem d_K_nth_27 : decode b_K_nth 27 = .ok (.ifCond .eq 14, 3) := by decide +kernel
theorem d_K_nth_30 : decode b_K_nth 30 = .ok (.iload_n 3, 1) := by decide +kernel
theorem d_K_nth_31 : decode b_K_nth 31 = .ok (.iload_n 2, 1) := by decide +kernel
theorem d_K_nth_32 : decode b_K_nth 32 = .ok (.if_icmp .ne 6, 3) := by decide +kernel
theorem d_K_nth_35 : decode b_K_nth 35 = .ok (.iload 4, 2) := by decide +kernel
theorem d_K_nth_37 : decode b_K_nth 37 = .ok (.ireturn, 1) := by decide +kernel
theorem d_K_nth_38 : decode b_K_nth 38 = .ok (.iinc 3 1, 3) := by decide +kernel
theorem d_K_nth_41 : decode b_K_nth 41 = .ok (.iinc 4 1, 3) := by decide +kernel
theorem d_K_nth_44 : decode b_K_nth 44 = .ok (.goto (-39), 3) := by decide +kernel
theorem d_K_nth_47 : decode b_K_nth 47 = .ok (.iconst (-1), 1) := by decide +kernel
theorem d_K_nth_48 : decode b_K_nth 48 = .ok (.ireturn, 1) := by decide +kernel
theorem d_K_gather_0 : decode b_K_gather 0 = .ok (.lload_n 2, 1) := by decide +kernel
theorem d_K_gather_1 : decode b_K_gather 1 = .ok (.lconst 1, 1) := by decide +kernel
theorem d_K_gather_2 : decode b_K_gather 2 = .ok (.lcmp, 1) := by decide +kernel
theorem d_K_gather_3 : decode b_K_gather 3 = .ok (.ifCond .ge 5, 3) := by decide +kernel
theorem d_K_gather_6 : decode b_K_gather 6 = .ok (.iconst (-1), 1) := by decide +kernel
theorem d_K_gather_7 : decode b_K_gather 7 = .ok (.ireturn, 1) := by decide +kernel
theorem d_K_gather_8 : decode b_K_gather 8 = .ok (.lload_n 2, 1) := by decide +kernel
theorem d_K_gather_9 : decode b_K_gather 9 = .ok (.lstore 4, 2) := by decide +kernel
theorem d_K_gather_11 : decode b_K_gather 11 = .ok (.iconst (-1), 1) := by decide +kernel
theorem d_K_gather_12 : decode b_K_gather 12 = .ok (.istore 6, 2) := by decide +kernel
theorem d_K_gather_14 : decode b_K_gather 14 = .ok (.aload_n 0, 1) := by decide +kernel
theorem d_K_gather_15 : decode b_K_gather 15 = .ok (.getfield 19, 3) := by decide +kernel
theorem d_K_gather_18 : decode b_K_gather 18 = .ok (.invokevirtual 48, 3) := by decide +kernel
theorem d_K_gather_21 : decode b_K_gather 21 = .ok (.istore 7, 2) := by decide +kernel
theorem d_K_gather_23 : decode b_K_gather 23 = .ok (.iconst 0, 1) := by decide +kernel
theorem d_K_gather_24 : decode b_K_gather 24 = .ok (.istore 8, 2) := by decide +kernel
theorem d_K_gather_26 : decode b_K_gather 26 = .ok (.iload 8, 2) := by decide +kernel
theorem d_K_gather_28 : decode b_K_gather 28 = .ok (.iload 7, 2) := by decide +kernel
theorem d_K_gather_30 : decode b_K_gather 30 = .ok (.if_icmp .ge 89, 3) := by decide +kernel
theorem d_K_gather_33 : decode b_K_gather 33 = .ok (.aload_n 0, 1) := by decide +kernel
theorem d_K_gather_34 : decode b_K_gather 34 = .ok (.getfield 10, 3) := by decide +kernel
theorem d_K_gather_37 : decode b_K_gather 37 = .ok (.iload_n 1, 1) := by decide +kernel
theorem d_K_gather_38 : decode b_K_gather 38 = .ok (.iload 6, 2) := by decide +kernel
theorem d_K_gather_40 : decode b_K_gather 40 = .ok (.invokevirtual 158, 3) := by decide +kernel
theorem d_K_gather_43 : decode b_K_gather 43 = .ok (.istore 6, 2) := by decide +kernel
theorem d_K_gather_45 : decode b_K_gather 45 = .ok (.iload 6, 2) := by decide +kernel
theorem d_K_gather_47 : decode b_K_gather 47 = .ok (.iconst (-1), 1) := by decide +kernel
theorem d_K_gather_48 : decode b_K_gather 48 = .ok (.if_icmp .eq 15, 3) := by decide +kernel
theorem d_K_gather_51 : decode b_K_gather 51 = .ok (.aload_n 0, 1) := by decide +kernel
theorem d_K_gather_52 : decode b_K_gather 52 = .ok (.getfield 19, 3) := by decide +kernel
theorem d_K_gather_55 : decode b_K_gather 55 = .ok (.iload 6, 2) := by decide +kernel
theorem d_K_gather_57 : decode b_K_gather 57 = .ok (.invokevirtual 45, 3) := by decide +kernel
theorem d_K_gather_60 : decode b_K_gather 60 = .ok (.ifCond .eq 5, 3) := by decide +kernel
theorem d_K_gather_63 : decode b_K_gather 63 = .ok (.iconst (-1), 1) := by decide +kernel
theorem d_K_gather_64 : decode b_K_gather 64 = .ok (.ireturn, 1) := by decide +kernel
theorem d_K_gather_65 : decode b_K_gather 65 = .ok (.aload_n 0, 1) := by decide +kernel
theorem d_K_gather_66 : decode b_K_gather 66 = .ok (.getfield 19, 3) := by decide +kernel
theorem d_K_gather_69 : decode b_K_gather 69 = .ok (.iload 8, 2) := by decide +kernel
theorem d_K_gather_71 : decode b_K_gather 71 = .ok (.iload 6, 2) := by decide +kernel
theorem d_K_gather_73 : decode b_K_gather 73 = .ok (.invokevirtual 52, 3) := by decide +kernel
theorem d_K_gather_76 : decode b_K_gather 76 = .ok (.lload 4, 2) := by decide +kernel
theorem d_K_gather_78 : decode b_K_gather 78 = .ok (.aload_n 0, 1) := by decide +kernel
theorem d_K_gather_79 : decode b_K_gather 79 = .ok (.getfield 10, 3) := by decide +kernel
theorem d_K_gather_82 : decode b_K_gather 82 = .ok (.iload 6, 2) := by decide +kernel
theorem d_K_gather_84 : decode b_K_gather 84 = .ok (.invokevirtual 143, 3) := by decide +kernel
theorem d_K_gather_87 : decode b_K_gather 87 = .ok (.lsub, 1) := by decide +kernel
theorem d_K_gather_88 : decode b_K_gather 88 = .ok (.lstore 4, 2) := by decide +kernel
theorem d_K_gather_90 : decode b_K_gather 90 = .ok (.lload 4, 2) := by decide +kernel
theorem d_K_gather_92 : decode b_K_gather 92 = .ok (.lconst 0, 1) := by decide +kernel
theorem d_K_gather_93 : decode b_K_gather 93 = .ok (.lcmp, 1) := by decide +kernel
theorem d_K_gather_94 : decode b_K_gather 94 = .ok (.ifCond .gt 19, 3) := by decide +kernel
theorem d_K_gather_97 : decode b_K_gather 97 = .ok (.aload_n 0, 1) := by decide +kernel
theorem d_K_gather_98 : decode b_K_gather 98 = .ok (.getfield 19, 3) := by decide +kernel
theorem d_K_gather_101 : decode b_K_gather 101 = .ok (.iload 8, 2) := by decide +kernel
theorem d_K_gather_103 : decode b_K_gather 103 = .ok (.iconst 1, 1) := by decide +kernel
theorem d_K_gather_104 : decode b_K_gather 104 = .ok (.iadd, 1) := by decide +kernel
theorem d_K_gather_105 : decode b_K_gather 105 = .ok (.invokevirtual 56, 3) := by decide +kernel
theorem d_K_gather_108 : decode b_K_gather 108 = .ok (.iload 8, 2) := by decide +kernel
theorem d_K_gather_110 : decode b_K_gather 110 = .ok (.iconst 1, 1) := by decide +kernel
theorem d_K_gather_111 : decode b_K_gather 111 = .ok (.iadd, 1) := by decide +kernel
theorem d_K_gather_112 : decode b_K_gather 112 = .ok (.ireturn, 1) := by decide +kernel
theorem d_K_gather_113 : decode b_K_gather 113 = .ok (.iinc 8 1, 3) := by decide +kernel
theorem d_K_gather_116 : decode b_K_gather 116 = .ok (.goto (-90), 3) := by decide +kernel
theorem d_K_gather_119 : decode b_K_gather 119 = .ok (.iconst (-1), 1) := by decide +kernel
theorem d_K_gather_120 : decode b_K_gather 120 = .ok (.ireturn, 1) := by decide +kernel
theorem d_K_look_0 : decode b_K_look 0 = .ok (.iload_n 1, 1) := by decide +kernel
theorem d_K_look_1 : decode b_K_look 1 = .ok (.tableswitch 133 0 9 #[55, 60, 65, 74, 83, 92, 101, 110, 119, 127], 55) := by decide +kernel
theorem d_K_look_56 : decode b_K_look 56 = .ok (.aload_n 0, 1) := by decide +kernel
theorem d_K_look_57 : decode b_K_look 57 = .ok (.getfield 93, 3) := by decide +kernel
theorem d_K_look_60 : decode b_K_look 60 = .ok (.lreturn, 1) := by decide +kernel
theorem d_K_look_61 : decode b_K_look 61 = .ok (.aload_n 0, 1) := by decide +kernel
theorem d_K_look_62 : decode b_K_look 62 = .ok (.getfield 96, 3) := by decide +kernel
theorem d_K_look_65 : decode b_K_look 65 = .ok (.lreturn, 1) := by decide +kernel
theorem d_K_look_66 : decode b_K_look 66 = .ok (.aload_n 0, 1) := by decide +kernel
theorem d_K_look_67 : decode b_K_look 67 = .ok (.getfield 37, 3) := by decide +kernel
theorem d_K_look_70 : decode b_K_look 70 = .ok (.getfield 109, 3) := by decide +kernel
theorem d_K_look_73 : decode b_K_look 73 = .ok (.i2l, 1) := by decide +kernel
theorem d_K_look_74 : decode b_K_look 74 = .ok (.lreturn, 1) := by decide +kernel
theorem d_K_look_75 : decode b_K_look 75 = .ok (.aload_n 0, 1) := by decide +kernel
theorem d_K_look_76 : decode b_K_look 76 = .ok (.getfield 10, 3) := by decide +kernel
theorem d_K_look_79 : decode b_K_look 79 = .ok (.getfield 151, 3) := by decide +kernel
theorem d_K_look_82 : decode b_K_look 82 = .ok (.i2l, 1) := by decide +kernel
theorem d_K_look_83 : decode b_K_look 83 = .ok (.lreturn, 1) := by decide +kernel
theorem d_K_look_84 : decode b_K_look 84 = .ok (.aload_n 0, 1) := by decide +kernel
theorem d_K_look_85 : decode b_K_look 85 = .ok (.getfield 10, 3) := by decide +kernel
theorem d_K_look_88 : decode b_K_look 88 = .ok (.invokevirtual 161, 3) := by decide +kernel
theorem d_K_look_91 : decode b_K_look 91 = .ok (.i2l, 1) := by decide +kernel
theorem d_K_look_92 : decode b_K_look 92 = .ok (.lreturn, 1) := by decide +kernel
theorem d_K_look_93 : decode b_K_look 93 = .ok (.aload_n 0, 1) := by decide +kernel
theorem d_K_look_94 : decode b_K_look 94 = .ok (.getfield 37, 3) := by decide +kernel
theorem d_K_look_97 : decode b_K_look 97 = .ok (.getfield 112, 3) := by decide +kernel
theorem d_K_look_100 : decode b_K_look 100 = .ok (.i2l, 1) := by decide +kernel
theorem d_K_look_101 : decode b_K_look 101 = .ok (.lreturn, 1) := by decide +kernel
theorem d_K_look_102 : decode b_K_look 102 = .ok (.aload_n 0, 1) := by decide +kernel
theorem d_K_look_103 : decode b_K_look 103 = .ok (.getfield 19, 3) := by decide +kernel
theorem d_K_look_106 : decode b_K_look 106 = .ok (.getfield 73, 3) := by decide +kernel
theorem d_K_look_109 : decode b_K_look 109 = .ok (.i2l, 1) := by decide +kernel
theorem d_K_look_110 : decode b_K_look 110 = .ok (.lreturn, 1) := by decide +kernel
theorem d_K_look_111 : decode b_K_look 111 = .ok (.aload_n 0, 1) := by decide +kernel
theorem d_K_look_112 : decode b_K_look 112 = .ok (.getfield 19, 3) := by decide +kernel
theorem d_K_look_115 : decode b_K_look 115 = .ok (.getfield 77, 3) := by decide +kernel
theorem d_K_look_118 : decode b_K_look 118 = .ok (.i2l, 1) := by decide +kernel
theorem d_K_look_119 : decode b_K_look 119 = .ok (.lreturn, 1) := by decide +kernel
theorem d_K_look_120 : decode b_K_look 120 = .ok (.aload_n 0, 1) := by decide +kernel
theorem d_K_look_121 : decode b_K_look 121 = .ok (.getfield 19, 3) := by decide +kernel
theorem d_K_look_124 : decode b_K_look 124 = .ok (.getfield 66, 3) := by decide +kernel
theorem d_K_look_127 : decode b_K_look 127 = .ok (.lreturn, 1) := by decide +kernel
theorem d_K_look_128 : decode b_K_look 128 = .ok (.aload_n 0, 1) := by decide +kernel
theorem d_K_look_129 : decode b_K_look 129 = .ok (.getfield 99, 3) := by decide +kernel
theorem d_K_look_132 : decode b_K_look 132 = .ok (.i2l, 1) := by decide +kernel
theorem d_K_look_133 : decode b_K_look 133 = .ok (.lreturn, 1) := by decide +kernel
theorem d_K_look_134 : decode b_K_look 134 = .ok (.ldc2_w 80, 3) := by decide +kernel
theorem d_K_look_137 : decode b_K_look 137 = .ok (.lreturn, 1) := by decide +kernel
theorem d_K_feeOfDraft_0 : decode b_K_feeOfDraft 0 = .ok (.aload_n 0, 1) := by decide +kernel
theorem d_K_feeOfDraft_1 : decode b_K_feeOfDraft 1 = .ok (.getfield 19, 3) := by decide +kernel
theorem d_K_feeOfDraft_4 : decode b_K_feeOfDraft 4 = .ok (.getfield 66, 3) := by decide +kernel
theorem d_K_feeOfDraft_7 : decode b_K_feeOfDraft 7 = .ok (.aload_n 0, 1) := by decide +kernel
theorem d_K_feeOfDraft_8 : decode b_K_feeOfDraft 8 = .ok (.getfield 93, 3) := by decide +kernel
theorem d_K_feeOfDraft_11 : decode b_K_feeOfDraft 11 = .ok (.lneg, 1) := by decide +kernel
theorem d_K_feeOfDraft_12 : decode b_K_feeOfDraft 12 = .ok (.lcmp, 1) := by decide +kernel
theorem d_K_feeOfDraft_13 : decode b_K_feeOfDraft 13 = .ok (.ifCond .lt 22, 3) := by decide +kernel
theorem d_K_feeOfDraft_16 : decode b_K_feeOfDraft 16 = .ok (.aload_n 0, 1) := by decide +kernel
theorem d_K_feeOfDraft_17 : decode b_K_feeOfDraft 17 = .ok (.getfield 19, 3) := by decide +kernel
theorem d_K_feeOfDraft_20 : decode b_K_feeOfDraft 20 = .ok (.getfield 66, 3) := by decide +kernel
theorem d_K_feeOfDraft_23 : decode b_K_feeOfDraft 23 = .ok (.ldc2_w 164, 3) := by decide +kernel
theorem d_K_feeOfDraft_26 : decode b_K_feeOfDraft 26 = .ok (.aload_n 0, 1) := by decide +kernel
theorem d_K_feeOfDraft_27 : decode b_K_feeOfDraft 27 = .ok (.getfield 93, 3) := by decide +kernel
theorem d_K_feeOfDraft_30 : decode b_K_feeOfDraft 30 = .ok (.lsub, 1) := by decide +kernel
theorem d_K_feeOfDraft_31 : decode b_K_feeOfDraft 31 = .ok (.lcmp, 1) := by decide +kernel
theorem d_K_feeOfDraft_32 : decode b_K_feeOfDraft 32 = .ok (.ifCond .le 7, 3) := by decide +kernel
theorem d_K_feeOfDraft_35 : decode b_K_feeOfDraft 35 = .ok (.ldc2_w 86, 3) := by decide +kernel
theorem d_K_feeOfDraft_38 : decode b_K_feeOfDraft 38 = .ok (.lreturn, 1) := by decide +kernel
theorem d_K_feeOfDraft_39 : decode b_K_feeOfDraft 39 = .ok (.aload_n 0, 1) := by decide +kernel
theorem d_K_feeOfDraft_40 : decode b_K_feeOfDraft 40 = .ok (.getfield 19, 3) := by decide +kernel
theorem d_K_feeOfDraft_43 : decode b_K_feeOfDraft 43 = .ok (.getfield 66, 3) := by decide +kernel
theorem d_K_feeOfDraft_46 : decode b_K_feeOfDraft 46 = .ok (.lstore_n 1, 1) := by decide +kernel
theorem d_K_feeOfDraft_47 : decode b_K_feeOfDraft 47 = .ok (.iconst 0, 1) := by decide +kernel
theorem d_K_feeOfDraft_48 : decode b_K_feeOfDraft 48 = .ok (.istore_n 3, 1) := by decide +kernel
theorem d_K_feeOfDraft_49 : decode b_K_feeOfDraft 49 = .ok (.iload_n 3, 1) := by decide +kernel
theorem d_K_feeOfDraft_50 : decode b_K_feeOfDraft 50 = .ok (.aload_n 0, 1) := by decide +kernel
theorem d_K_feeOfDraft_51 : decode b_K_feeOfDraft 51 = .ok (.getfield 19, 3) := by decide +kernel
theorem d_K_feeOfDraft_54 : decode b_K_feeOfDraft 54 = .ok (.getfield 73, 3) := by decide +kernel
theorem d_K_feeOfDraft_57 : decode b_K_feeOfDraft 57 = .ok (.if_icmp .ge 28, 3) := by decide +kernel
theorem d_K_feeOfDraft_60 : decode b_K_feeOfDraft 60 = .ok (.lload_n 1, 1) := by decide +kernel
theorem d_K_feeOfDraft_61 : decode b_K_feeOfDraft 61 = .ok (.aload_n 0, 1) := by decide +kernel
theorem d_K_feeOfDraft_62 : decode b_K_feeOfDraft 62 = .ok (.getfield 10, 3) := by decide +kernel
theorem d_K_feeOfDraft_65 : decode b_K_feeOfDraft 65 = .ok (.aload_n 0, 1) := by decide +kernel
theorem d_K_feeOfDraft_66 : decode b_K_feeOfDraft 66 = .ok (.getfield 19, 3) := by decide +kernel
theorem d_K_feeOfDraft_69 : decode b_K_feeOfDraft 69 = .ok (.getfield 166, 3) := by decide +kernel
theorem d_K_feeOfDraft_72 : decode b_K_feeOfDraft 72 = .ok (.iload_n 3, 1) := by decide +kernel
theorem d_K_feeOfDraft_73 : decode b_K_feeOfDraft 73 = .ok (.iaload, 1) := by decide +kernel
theorem d_K_feeOfDraft_74 : decode b_K_feeOfDraft 74 = .ok (.invokevirtual 143, 3) := by decide +kernel
theorem d_K_feeOfDraft_77 : decode b_K_feeOfDraft 77 = .ok (.ladd, 1) := by decide +kernel
theorem d_K_feeOfDraft_78 : decode b_K_feeOfDraft 78 = .ok (.lstore_n 1, 1) := by decide +kernel
theorem d_K_feeOfDraft_79 : decode b_K_feeOfDraft 79 = .ok (.iinc 3 1, 3) := by decide +kernel
theorem d_K_feeOfDraft_82 : decode b_K_feeOfDraft 82 = .ok (.goto (-33), 3) := by decide +kernel
theorem d_K_feeOfDraft_85 : decode b_K_feeOfDraft 85 = .ok (.iconst 0, 1) := by decide +kernel
theorem d_K_feeOfDraft_86 : decode b_K_feeOfDraft 86 = .ok (.istore_n 3, 1) := by decide +kernel
theorem d_K_feeOfDraft_87 : decode b_K_feeOfDraft 87 = .ok (.iload_n 3, 1) := by decide +kernel
theorem d_K_feeOfDraft_88 : decode b_K_feeOfDraft 88 = .ok (.aload_n 0, 1) := by decide +kernel
theorem d_K_feeOfDraft_89 : decode b_K_feeOfDraft 89 = .ok (.getfield 19, 3) := by decide +kernel
theorem d_K_feeOfDraft_92 : decode b_K_feeOfDraft 92 = .ok (.getfield 77, 3) := by decide +kernel
theorem d_K_feeOfDraft_95 : decode b_K_feeOfDraft 95 = .ok (.if_icmp .ge 39, 3) := by decide +kernel
theorem d_K_feeOfDraft_98 : decode b_K_feeOfDraft 98 = .ok (.aload_n 0, 1) := by decide +kernel
theorem d_K_feeOfDraft_99 : decode b_K_feeOfDraft 99 = .ok (.getfield 19, 3) := by decide +kernel
theorem d_K_feeOfDraft_102 : decode b_K_feeOfDraft 102 = .ok (.getfield 169, 3) := by decide +kernel
theorem d_K_feeOfDraft_105 : decode b_K_feeOfDraft 105 = .ok (.iload_n 3, 1) := by decide +kernel
theorem d_K_feeOfDraft_106 : decode b_K_feeOfDraft 106 = .ok (.laload, 1) := by decide +kernel
theorem d_K_feeOfDraft_107 : decode b_K_feeOfDraft 107 = .ok (.lload_n 1, 1) := by decide +kernel
theorem d_K_feeOfDraft_108 : decode b_K_feeOfDraft 108 = .ok (.lcmp, 1) := by decide +kernel
theorem d_K_feeOfDraft_109 : decode b_K_feeOfDraft 109 = .ok (.ifCond .le 7, 3) := by decide +kernel
theorem d_K_feeOfDraft_112 : decode b_K_feeOfDraft 112 = .ok (.ldc2_w 86, 3) := by decide +kernel
theorem d_K_feeOfDraft_115 : decode b_K_feeOfDraft 115 = .ok (.lreturn, 1) := by decide +kernel
theorem d_K_feeOfDraft_116 : decode b_K_feeOfDraft 116 = .ok (.lload_n 1, 1) := by decide +kernel
theorem d_K_feeOfDraft_117 : decode b_K_feeOfDraft 117 = .ok (.aload_n 0, 1) := by decide +kernel
theorem d_K_feeOfDraft_118 : decode b_K_feeOfDraft 118 = .ok (.getfield 19, 3) := by decide +kernel
theorem d_K_feeOfDraft_121 : decode b_K_feeOfDraft 121 = .ok (.getfield 169, 3) := by decide +kernel
theorem d_K_feeOfDraft_124 : decode b_K_feeOfDraft 124 = .ok (.iload_n 3, 1) := by decide +kernel
theorem d_K_feeOfDraft_125 : decode b_K_feeOfDraft 125 = .ok (.laload, 1) := by decide +kernel
theorem d_K_feeOfDraft_126 : decode b_K_feeOfDraft 126 = .ok (.lsub, 1) := by decide +kernel
theorem d_K_feeOfDraft_127 : decode b_K_feeOfDraft 127 = .ok (.lstore_n 1, 1) := by decide +kernel
theorem d_K_feeOfDraft_128 : decode b_K_feeOfDraft 128 = .ok (.iinc 3 1, 3) := by decide +kernel
theorem d_K_feeOfDraft_131 : decode b_K_feeOfDraft 131 = .ok (.goto (-44), 3) := by decide +kernel
theorem d_K_feeOfDraft_134 : decode b_K_feeOfDraft 134 = .ok (.lload_n 1, 1) := by decide +kernel
theorem d_K_feeOfDraft_135 : decode b_K_feeOfDraft 135 = .ok (.lreturn, 1) := by decide +kernel
theorem d_K_bookDraft_0 : decode b_K_bookDraft 0 = .ok (.iconst 0, 1) := by decide +kernel
theorem d_K_bookDraft_1 : decode b_K_bookDraft 1 = .ok (.istore_n 1, 1) := by decide +kernel
theorem d_K_bookDraft_2 : decode b_K_bookDraft 2 = .ok (.iload_n 1, 1) := by decide +kernel
theorem d_K_bookDraft_3 : decode b_K_bookDraft 3 = .ok (.aload_n 0, 1) := by decide +kernel
theorem d_K_bookDraft_4 : decode b_K_bookDraft 4 = .ok (.getfield 19, 3) := by decide +kernel
theorem d_K_bookDraft_7 : decode b_K_bookDraft 7 = .ok (.getfield 73, 3) := by decide +kernel
theorem d_K_bookDraft_10 : decode b_K_bookDraft 10 = .ok (.if_icmp .ge 32, 3) := by decide +kernel
theorem d_K_bookDraft_13 : decode b_K_bookDraft 13 = .ok (.aload_n 0, 1) := by decide +kernel
theorem d_K_bookDraft_14 : decode b_K_bookDraft 14 = .ok (.getfield 10, 3) := by decide +kernel
theorem d_K_bookDraft_17 : decode b_K_bookDraft 17 = .ok (.aload_n 0, 1) := by decide +kernel
theorem d_K_bookDraft_18 : decode b_K_bookDraft 18 = .ok (.getfield 19, 3) := by decide +kernel
theorem d_K_bookDraft_21 : decode b_K_bookDraft 21 = .ok (.getfield 166, 3) := by decide +kernel
theorem d_K_bookDraft_24 : decode b_K_bookDraft 24 = .ok (.iload_n 1, 1) := by decide +kernel
theorem d_K_bookDraft_25 : decode b_K_bookDraft 25 = .ok (.iaload, 1) := by decide +kernel
theorem d_K_bookDraft_26 : decode b_K_bookDraft 26 = .ok (.aload_n 0, 1) := by decide +kernel
theorem d_K_bookDraft_27 : decode b_K_bookDraft 27 = .ok (.getfield 37, 3) := by decide +kernel
theorem d_K_bookDraft_30 : decode b_K_bookDraft 30 = .ok (.getfield 109, 3) := by decide +kernel
theorem d_K_bookDraft_33 : decode b_K_bookDraft 33 = .ok (.invokevirtual 172, 3) := by decide +kernel
theorem d_K_bookDraft_36 : decode b_K_bookDraft 36 = .ok (.iinc 1 1, 3) := by decide +kernel
theorem d_K_bookDraft_39 : decode b_K_bookDraft 39 = .ok (.goto (-37), 3) := by decide +kernel
theorem d_K_bookDraft_42 : decode b_K_bookDraft 42 = .ok (.iconst 0, 1) := by decide +kernel
theorem d_K_bookDraft_43 : decode b_K_bookDraft 43 = .ok (.istore_n 1, 1) := by decide +kernel
theorem d_K_bookDraft_44 : decode b_K_bookDraft 44 = .ok (.iload_n 1, 1) := by decide +kernel
theorem d_K_bookDraft_45 : decode b_K_bookDraft 45 = .ok (.aload_n 0, 1) := by decide +kernel
theorem d_K_bookDraft_46 : decode b_K_bookDraft 46 = .ok (.getfield 19, 3) := by decide +kernel
theorem d_K_bookDraft_49 : decode b_K_bookDraft 49 = .ok (.getfield 77, 3) := by decide +kernel
theorem d_K_bookDraft_52 : decode b_K_bookDraft 52 = .ok (.if_icmp .ge 50, 3) := by decide +kernel
theorem d_K_bookDraft_55 : decode b_K_bookDraft 55 = .ok (.aload_n 0, 1) := by decide +kernel
theorem d_K_bookDraft_56 : decode b_K_bookDraft 56 = .ok (.getfield 10, 3) := by decide +kernel
theorem d_K_bookDraft_59 : decode b_K_bookDraft 59 = .ok (.aload_n 0, 1) := by decide +kernel
theorem d_K_bookDraft_60 : decode b_K_bookDraft 60 = .ok (.getfield 19, 3) := by decide +kernel
theorem d_K_bookDraft_63 : decode b_K_bookDraft 63 = .ok (.getfield 175, 3) := by decide +kernel
theorem d_K_bookDraft_66 : decode b_K_bookDraft 66 = .ok (.iload_n 1, 1) := by decide +kernel
theorem d_K_bookDraft_67 : decode b_K_bookDraft 67 = .ok (.iaload, 1) := by decide +kernel
theorem d_K_bookDraft_68 : decode b_K_bookDraft 68 = .ok (.aload_n 0, 1) := by decide +kernel
theorem d_K_bookDraft_69 : decode b_K_bookDraft 69 = .ok (.getfield 19, 3) := by decide +kernel
theorem d_K_bookDraft_72 : decode b_K_bookDraft 72 = .ok (.getfield 169, 3) := by decide +kernel
theorem d_K_bookDraft_75 : decode b_K_bookDraft 75 = .ok (.iload_n 1, 1) := by decide +kernel
theorem d_K_bookDraft_76 : decode b_K_bookDraft 76 = .ok (.laload, 1) := by decide +kernel
theorem d_K_bookDraft_77 : decode b_K_bookDraft 77 = .ok (.aload_n 0, 1) := by decide +kernel
theorem d_K_bookDraft_78 : decode b_K_bookDraft 78 = .ok (.getfield 19, 3) := by decide +kernel
theorem d_K_bookDraft_81 : decode b_K_bookDraft 81 = .ok (.getfield 176, 3) := by decide +kernel
theorem d_K_bookDraft_84 : decode b_K_bookDraft 84 = .ok (.iload_n 1, 1) := by decide +kernel
theorem d_K_bookDraft_85 : decode b_K_bookDraft 85 = .ok (.laload, 1) := by decide +kernel
theorem d_K_bookDraft_86 : decode b_K_bookDraft 86 = .ok (.aload_n 0, 1) := by decide +kernel
theorem d_K_bookDraft_87 : decode b_K_bookDraft 87 = .ok (.getfield 37, 3) := by decide +kernel
theorem d_K_bookDraft_90 : decode b_K_bookDraft 90 = .ok (.getfield 109, 3) := by decide +kernel
theorem d_K_bookDraft_93 : decode b_K_bookDraft 93 = .ok (.invokevirtual 177, 3) := by decide +kernel
theorem d_K_bookDraft_96 : decode b_K_bookDraft 96 = .ok (.iinc 1 1, 3) := by decide +kernel
theorem d_K_bookDraft_99 : decode b_K_bookDraft 99 = .ok (.goto (-55), 3) := by decide +kernel
theorem d_K_bookDraft_102 : decode b_K_bookDraft 102 = .ok (.return_, 1) := by decide +kernel
