theorem d_Mr_init_0 : decode prog_9_method_1_code 0 = .ok (.aload_n 0, 1) := by decide +kernel
theorem d_Mr_init_1 : decode prog_9_method_1_code 1 = .ok (.invokespecial 3, 3) := by decide +kernel
theorem d_Mr_init_4 : decode prog_9_method_1_code 4 = .ok (.aload_n 0, 1) := by decide +kernel
theorem d_Mr_init_5 : decode prog_9_method_1_code 5 = .ok (.new 9, 3) := by decide +kernel
theorem d_Mr_init_8 : decode prog_9_method_1_code 8 = .ok (.dup, 1) := by decide +kernel
theorem d_Mr_init_9 : decode prog_9_method_1_code 9 = .ok (.invokespecial 11, 3) := by decide +kernel
theorem d_Mr_init_12 : decode prog_9_method_1_code 12 = .ok (.putfield 12, 3) := by decide +kernel
theorem d_Mr_init_15 : decode prog_9_method_1_code 15 = .ok (.aload_n 0, 1) := by decide +kernel
theorem d_Mr_init_16 : decode prog_9_method_1_code 16 = .ok (.aload_n 1, 1) := by decide +kernel
theorem d_Mr_init_17 : decode prog_9_method_1_code 17 = .ok (.putfield 18, 3) := by decide +kernel
theorem d_Mr_init_20 : decode prog_9_method_1_code 20 = .ok (.return_, 1) := by decide +kernel
theorem d_Mo_init_0 : decode prog_8_method_1_code 0 = .ok (.aload_n 0, 1) := by decide +kernel
theorem d_Mo_init_1 : decode prog_8_method_1_code 1 = .ok (.invokespecial 3, 3) := by decide +kernel
theorem d_Mo_init_4 : decode prog_8_method_1_code 4 = .ok (.aload_n 0, 1) := by decide +kernel
theorem d_Mo_init_5 : decode prog_8_method_1_code 5 = .ok (.bipush 11, 2) := by decide +kernel
theorem d_Mo_init_7 : decode prog_8_method_1_code 7 = .ok (.newarray .int, 2) := by decide +kernel
theorem d_Mo_init_9 : decode prog_8_method_1_code 9 = .ok (.putfield 9, 3) := by decide +kernel
theorem d_Mo_init_12 : decode prog_8_method_1_code 12 = .ok (.aload_n 0, 1) := by decide +kernel
theorem d_Mo_init_13 : decode prog_8_method_1_code 13 = .ok (.bipush 8, 2) := by decide +kernel
theorem d_Mo_init_15 : decode prog_8_method_1_code 15 = .ok (.newarray .int, 2) := by decide +kernel
theorem d_Mo_init_17 : decode prog_8_method_1_code 17 = .ok (.putfield 15, 3) := by decide +kernel
theorem d_Mo_init_20 : decode prog_8_method_1_code 20 = .ok (.return_, 1) := by decide +kernel
theorem d_Ms_init_0 : decode prog_10_method_1_code 0 = .ok (.aload_n 0, 1) := by decide +kernel
theorem d_Ms_init_1 : decode prog_10_method_1_code 1 = .ok (.invokespecial 3, 3) := by decide +kernel
theorem d_Ms_init_4 : decode prog_10_method_1_code 4 = .ok (.aload_n 0, 1) := by decide +kernel
theorem d_Ms_init_5 : decode prog_10_method_1_code 5 = .ok (.bipush 9, 2) := by decide +kernel
theorem d_Ms_init_7 : decode prog_10_method_1_code 7 = .ok (.anewarray 9, 3) := by decide +kernel
theorem d_Ms_init_10 : decode prog_10_method_1_code 10 = .ok (.putfield 11, 3) := by decide +kernel
theorem d_Ms_init_13 : decode prog_10_method_1_code 13 = .ok (.aload_n 0, 1) := by decide +kernel
theorem d_Ms_init_14 : decode prog_10_method_1_code 14 = .ok (.new 9, 3) := by decide +kernel
theorem d_Ms_init_17 : decode prog_10_method_1_code 17 = .ok (.dup, 1) := by decide +kernel
theorem d_Ms_init_18 : decode prog_10_method_1_code 18 = .ok (.invokespecial 17, 3) := by decide +kernel
theorem d_Ms_init_21 : decode prog_10_method_1_code 21 = .ok (.putfield 18, 3) := by decide +kernel
theorem d_Ms_init_24 : decode prog_10_method_1_code 24 = .ok (.iconst 0, 1) := by decide +kernel
theorem d_Ms_init_25 : decode prog_10_method_1_code 25 = .ok (.istore_n 1, 1) := by decide +kernel
theorem d_Ms_init_26 : decode prog_10_method_1_code 26 = .ok (.iload_n 1, 1) := by decide +kernel
theorem d_Ms_init_27 : decode prog_10_method_1_code 27 = .ok (.aload_n 0, 1) := by decide +kernel
theorem d_Ms_init_28 : decode prog_10_method_1_code 28 = .ok (.getfield 11, 3) := by decide +kernel
theorem d_Ms_init_31 : decode prog_10_method_1_code 31 = .ok (.arraylength, 1) := by decide +kernel
theorem d_Ms_init_32 : decode prog_10_method_1_code 32 = .ok (.if_icmp .ge 22, 3) := by decide +kernel
theorem d_Ms_init_35 : decode prog_10_method_1_code 35 = .ok (.aload_n 0, 1) := by decide +kernel
theorem d_Ms_init_36 : decode prog_10_method_1_code 36 = .ok (.getfield 11, 3) := by decide +kernel
theorem d_Ms_init_39 : decode prog_10_method_1_code 39 = .ok (.iload_n 1, 1) := by decide +kernel
theorem d_Ms_init_40 : decode prog_10_method_1_code 40 = .ok (.new 9, 3) := by decide +kernel
theorem d_Ms_init_43 : decode prog_10_method_1_code 43 = .ok (.dup, 1) := by decide +kernel
theorem d_Ms_init_44 : decode prog_10_method_1_code 44 = .ok (.invokespecial 17, 3) := by decide +kernel
theorem d_Ms_init_47 : decode prog_10_method_1_code 47 = .ok (.aastore, 1) := by decide +kernel
theorem d_Ms_init_48 : decode prog_10_method_1_code 48 = .ok (.iinc 1 1, 3) := by decide +kernel
theorem d_Ms_init_51 : decode prog_10_method_1_code 51 = .ok (.goto (-25), 3) := by decide +kernel
theorem d_Ms_init_54 : decode prog_10_method_1_code 54 = .ok (.return_, 1) := by decide +kernel
theorem d_Tx_init_0 : decode prog_11_method_1_code 0 = .ok (.aload_n 0, 1) := by decide +kernel
theorem d_Tx_init_1 : decode prog_11_method_1_code 1 = .ok (.invokespecial 3, 3) := by decide +kernel
theorem d_Tx_init_4 : decode prog_11_method_1_code 4 = .ok (.aload_n 0, 1) := by decide +kernel
theorem d_Tx_init_5 : decode prog_11_method_1_code 5 = .ok (.bipush 100, 2) := by decide +kernel
theorem d_Tx_init_7 : decode prog_11_method_1_code 7 = .ok (.newarray .char, 2) := by decide +kernel
theorem d_Tx_init_9 : decode prog_11_method_1_code 9 = .ok (.putfield 9, 3) := by decide +kernel
theorem d_Tx_init_12 : decode prog_11_method_1_code 12 = .ok (.return_, 1) := by decide +kernel
theorem d_Tr_init_0 : decode prog_12_method_1_code 0 = .ok (.aload_n 0, 1) := by decide +kernel
theorem d_Tr_init_1 : decode prog_12_method_1_code 1 = .ok (.invokespecial 3, 3) := by decide +kernel
theorem d_Tr_init_4 : decode prog_12_method_1_code 4 = .ok (.aload_n 0, 1) := by decide +kernel
theorem d_Tr_init_5 : decode prog_12_method_1_code 5 = .ok (.bipush 34, 2) := by decide +kernel
theorem d_Tr_init_7 : decode prog_12_method_1_code 7 = .ok (.anewarray 9, 3) := by decide +kernel
theorem d_Tr_init_10 : decode prog_12_method_1_code 10 = .ok (.putfield 11, 3) := by decide +kernel
theorem d_Tr_init_13 : decode prog_12_method_1_code 13 = .ok (.aload_n 0, 1) := by decide +kernel
theorem d_Tr_init_14 : decode prog_12_method_1_code 14 = .ok (.bipush 33, 2) := by decide +kernel
theorem d_Tr_init_16 : decode prog_12_method_1_code 16 = .ok (.newarray .int, 2) := by decide +kernel
theorem d_Tr_init_18 : decode prog_12_method_1_code 18 = .ok (.putfield 17, 3) := by decide +kernel
theorem d_Tr_init_21 : decode prog_12_method_1_code 21 = .ok (.aload_n 0, 1) := by decide +kernel
theorem d_Tr_init_22 : decode prog_12_method_1_code 22 = .ok (.bipush 33, 2) := by decide +kernel
theorem d_Tr_init_24 : decode prog_12_method_1_code 24 = .ok (.newarray .int, 2) := by decide +kernel
theorem d_Tr_init_26 : decode prog_12_method_1_code 26 = .ok (.putfield 21, 3) := by decide +kernel
theorem d_Tr_init_29 : decode prog_12_method_1_code 29 = .ok (.aload_n 0, 1) := by decide +kernel
theorem d_Tr_init_30 : decode prog_12_method_1_code 30 = .ok (.bipush 33, 2) := by decide +kernel
theorem d_Tr_init_32 : decode prog_12_method_1_code 32 = .ok (.newarray .int, 2) := by decide +kernel
theorem d_Tr_init_34 : decode prog_12_method_1_code 34 = .ok (.putfield 24, 3) := by decide +kernel
theorem d_Tr_init_37 : decode prog_12_method_1_code 37 = .ok (.aload_n 0, 1) := by decide +kernel
theorem d_Tr_init_38 : decode prog_12_method_1_code 38 = .ok (.aload_n 1, 1) := by decide +kernel
theorem d_Tr_init_39 : decode prog_12_method_1_code 39 = .ok (.putfield 27, 3) := by decide +kernel
theorem d_Tr_init_42 : decode prog_12_method_1_code 42 = .ok (.iconst 0, 1) := by decide +kernel
theorem d_Tr_init_43 : decode prog_12_method_1_code 43 = .ok (.istore_n 2, 1) := by decide +kernel
theorem d_Tr_init_44 : decode prog_12_method_1_code 44 = .ok (.iload_n 2, 1) := by decide +kernel
theorem d_Tr_init_45 : decode prog_12_method_1_code 45 = .ok (.aload_n 0, 1) := by decide +kernel
theorem d_Tr_init_46 : decode prog_12_method_1_code 46 = .ok (.getfield 11, 3) := by decide +kernel
theorem d_Tr_init_49 : decode prog_12_method_1_code 49 = .ok (.arraylength, 1) := by decide +kernel
theorem d_Tr_init_50 : decode prog_12_method_1_code 50 = .ok (.if_icmp .ge 22, 3) := by decide +kernel
theorem d_Tr_init_53 : decode prog_12_method_1_code 53 = .ok (.aload_n 0, 1) := by decide +kernel
theorem d_Tr_init_54 : decode prog_12_method_1_code 54 = .ok (.getfield 11, 3) := by decide +kernel
theorem d_Tr_init_57 : decode prog_12_method_1_code 57 = .ok (.iload_n 2, 1) := by decide +kernel
theorem d_Tr_init_58 : decode prog_12_method_1_code 58 = .ok (.new 9, 3) := by decide +kernel
theorem d_Tr_init_61 : decode prog_12_method_1_code 61 = .ok (.dup, 1) := by decide +kernel
theorem d_Tr_init_62 : decode prog_12_method_1_code 62 = .ok (.invokespecial 31, 3) := by decide +kernel
theorem d_Tr_init_65 : decode prog_12_method_1_code 65 = .ok (.aastore, 1) := by decide +kernel
theorem d_Tr_init_66 : decode prog_12_method_1_code 66 = .ok (.iinc 2 1, 3) := by decide +kernel
theorem d_Tr_init_69 : decode prog_12_method_1_code 69 = .ok (.goto (-25), 3) := by decide +kernel
theorem d_Tr_init_72 : decode prog_12_method_1_code 72 = .ok (.return_, 1) := by decide +kernel
theorem d_Mr_readInto_0 : decode prog_9_method_2_code 0 = .ok (.aload_n 0, 1) := by decide +kernel
theorem d_Mr_readInto_1 : decode prog_9_method_2_code 1 = .ok (.aload_n 1, 1) := by decide +kernel
theorem d_Mr_readInto_2 : decode prog_9_method_2_code 2 = .ok (.putfield 12, 3) := by decide +kernel
theorem d_Mr_readInto_5 : decode prog_9_method_2_code 5 = .ok (.aload_n 0, 1) := by decide +kernel
theorem d_Mr_readInto_6 : decode prog_9_method_2_code 6 = .ok (.getfield 12, 3) := by decide +kernel
theorem d_Mr_readInto_9 : decode prog_9_method_2_code 9 = .ok (.invokevirtual 22, 3) := by decide +kernel
theorem d_Mr_readInto_12 : decode prog_9_method_2_code 12 = .ok (.aload_n 0, 1) := by decide +kernel
theorem d_Mr_readInto_13 : decode prog_9_method_2_code 13 = .ok (.iconst 0, 1) := by decide +kernel
theorem d_Mr_readInto_14 : decode prog_9_method_2_code 14 = .ok (.putfield 25, 3) := by decide +kernel
theorem d_Mr_readInto_17 : decode prog_9_method_2_code 17 = .ok (.aload_n 0, 1) := by decide +kernel
theorem d_Mr_readInto_18 : decode prog_9_method_2_code 18 = .ok (.getfield 12, 3) := by decide +kernel
theorem d_Mr_readInto_21 : decode prog_9_method_2_code 21 = .ok (.aload_n 0, 1) := by decide +kernel
theorem d_Mr_readInto_22 : decode prog_9_method_2_code 22 = .ok (.bipush 35, 2) := by decide +kernel
theorem d_Mr_readInto_24 : decode prog_9_method_2_code 24 = .ok (.invokevirtual 29, 3) := by decide +kernel
theorem d_Mr_readInto_27 : decode prog_9_method_2_code 27 = .ok (.putfield 33, 3) := by decide +kernel
theorem d_Mr_readInto_30 : decode prog_9_method_2_code 30 = .ok (.aload_n 0, 1) := by decide +kernel
theorem d_Mr_readInto_31 : decode prog_9_method_2_code 31 = .ok (.getfield 25, 3) := by decide +kernel
theorem d_Mr_readInto_34 : decode prog_9_method_2_code 34 = .ok (.aload_n 0, 1) := by decide +kernel
theorem d_Mr_readInto_35 : decode prog_9_method_2_code 35 = .ok (.getfield 18, 3) := by decide +kernel
theorem d_Mr_readInto_38 : decode prog_9_method_2_code 38 = .ok (.getfield 37, 3) := by decide +kernel
theorem d_Mr_readInto_41 : decode prog_9_method_2_code 41 = .ok (.if_icmp .ne 15, 3) := by decide +kernel
theorem d_Mr_readInto_44 : decode prog_9_method_2_code 44 = .ok (.aload_n 0, 1) := by decide +kernel
theorem d_Mr_readInto_45 : decode prog_9_method_2_code 45 = .ok (.getfield 12, 3) := by decide +kernel
theorem d_Mr_readInto_48 : decode prog_9_method_2_code 48 = .ok (.iconst 0, 1) := by decide +kernel
theorem d_Mr_readInto_49 : decode prog_9_method_2_code 49 = .ok (.iconst 0, 1) := by decide +kernel
theorem d_Mr_readInto_50 : decode prog_9_method_2_code 50 = .ok (.iconst 1, 1) := by decide +kernel
theorem d_Mr_readInto_51 : decode prog_9_method_2_code 51 = .ok (.invokevirtual 42, 3) := by decide +kernel
theorem d_Mr_readInto_54 : decode prog_9_method_2_code 54 = .ok (.iconst 0, 1) := by decide +kernel
theorem d_Mr_readInto_55 : decode prog_9_method_2_code 55 = .ok (.ireturn, 1) := by decide +kernel
theorem d_Mr_readInto_56 : decode prog_9_method_2_code 56 = .ok (.aload_n 0, 1) := by decide +kernel
theorem d_Mr_readInto_57 : decode prog_9_method_2_code 57 = .ok (.iconst 0, 1) := by decide +kernel
theorem d_Mr_readInto_58 : decode prog_9_method_2_code 58 = .ok (.invokevirtual 46, 3) := by decide +kernel
theorem d_Mr_readInto_61 : decode prog_9_method_2_code 61 = .ok (.ifCond .eq 17, 3) := by decide +kernel
theorem d_Mr_readInto_64 : decode prog_9_method_2_code 64 = .ok (.aload_n 0, 1) := by decide +kernel
theorem d_Mr_readInto_65 : decode prog_9_method_2_code 65 = .ok (.getfield 25, 3) := by decide +kernel
theorem d_Mr_readInto_68 : decode prog_9_method_2_code 68 = .ok (.aload_n 0, 1) := by decide +kernel
theorem d_Mr_readInto_69 : decode prog_9_method_2_code 69 = .ok (.getfield 18, 3) := by decide +kernel
theorem d_Mr_readInto_72 : decode prog_9_method_2_code 72 = .ok (.getfield 37, 3) := by decide +kernel
theorem d_Mr_readInto_75 : decode prog_9_method_2_code 75 = .ok (.if_icmp .eq 5, 3) := by decide +kernel
theorem d_Mr_readInto_78 : decode prog_9_method_2_code 78 = .ok (.iconst (-1), 1) := by decide +kernel
theorem d_Mr_readInto_79 : decode prog_9_method_2_code 79 = .ok (.ireturn, 1) := by decide +kernel
theorem d_Mr_readInto_80 : decode prog_9_method_2_code 80 = .ok (.aload_n 0, 1) := by decide +kernel
theorem d_Mr_readInto_81 : decode prog_9_method_2_code 81 = .ok (.getfield 12, 3) := by decide +kernel
theorem d_Mr_readInto_84 : decode prog_9_method_2_code 84 = .ok (.aload_n 0, 1) := by decide +kernel
theorem d_Mr_readInto_85 : decode prog_9_method_2_code 85 = .ok (.getfield 50, 3) := by decide +kernel
theorem d_Mr_readInto_88 : decode prog_9_method_2_code 88 = .ok (.aload_n 0, 1) := by decide +kernel
theorem d_Mr_readInto_89 : decode prog_9_method_2_code 89 = .ok (.getfield 53, 3) := by decide +kernel
theorem d_Mr_readInto_92 : decode prog_9_method_2_code 92 = .ok (.aload_n 0, 1) := by decide +kernel
theorem d_Mr_readInto_93 : decode prog_9_method_2_code 93 = .ok (.getfield 56, 3) := by decide +kernel
theorem d_Mr_readInto_96 : decode prog_9_method_2_code 96 = .ok (.invokevirtual 42, 3) := by decide +kernel
theorem d_Mr_readInto_99 : decode prog_9_method_2_code 99 = .ok (.iconst 0, 1) := by decide +kernel
theorem d_Mr_readInto_100 : decode prog_9_method_2_code 100 = .ok (.ireturn, 1) := by decide +kernel
theorem d_Mo_clear_0 : decode prog_8_method_2_code 0 = .ok (.aload_n 0, 1) := by decide +kernel
theorem d_Mo_clear_1 : decode prog_8_method_2_code 1 = .ok (.iconst 0, 1) := by decide +kernel
theorem d_Mo_clear_2 : decode prog_8_method_2_code 2 = .ok (.putfield 18, 3) := by decide +kernel
theorem d_Mo_clear_5 : decode prog_8_method_2_code 5 = .ok (.aload_n 0, 1) := by decide +kernel
theorem d_Mo_clear_6 : decode prog_8_method_2_code 6 = .ok (.iconst 0, 1) := by decide +kernel
theorem d_Mo_clear_7 : decode prog_8_method_2_code 7 = .ok (.putfield 22, 3) := by decide +kernel
theorem d_Mo_clear_10 : decode prog_8_method_2_code 10 = .ok (.aload_n 0, 1) := by decide +kernel
theorem d_Mo_clear_11 : decode prog_8_method_2_code 11 = .ok (.iconst 0, 1) := by decide +kernel
theorem d_Mo_clear_12 : decode prog_8_method_2_code 12 = .ok (.putfield 25, 3) := by decide +kernel
theorem d_Mo_clear_15 : decode prog_8_method_2_code 15 = .ok (.aload_n 0, 1) := by decide +kernel
theorem d_Mo_clear_16 : decode prog_8_method_2_code 16 = .ok (.iconst 0, 1) := by decide +kernel
theorem d_Mo_clear_17 : decode prog_8_method_2_code 17 = .ok (.putfield 29, 3) := by decide +kernel
theorem d_Mo_clear_20 : decode prog_8_method_2_code 20 = .ok (.iconst 0, 1) := by decide +kernel
theorem d_Mo_clear_21 : decode prog_8_method_2_code 21 = .ok (.istore_n 1, 1) := by decide +kernel
theorem d_Mo_clear_22 : decode prog_8_method_2_code 22 = .ok (.iload_n 1, 1) := by decide +kernel
theorem d_Mo_clear_23 : decode prog_8_method_2_code 23 = .ok (.aload_n 0, 1) := by decide +kernel
theorem d_Mo_clear_24 : decode prog_8_method_2_code 24 = .ok (.getfield 9, 3) := by decide +kernel
theorem d_Mo_clear_27 : decode prog_8_method_2_code 27 = .ok (.arraylength, 1) := by decide +kernel
theorem d_Mo_clear_28 : decode prog_8_method_2_code 28 = .ok (.if_icmp .ge 16, 3) := by decide +kernel
theorem d_Mo_clear_31 : decode prog_8_method_2_code 31 = .ok (.aload_n 0, 1) := by decide +kernel
theorem d_Mo_clear_32 : decode prog_8_method_2_code 32 = .ok (.getfield 9, 3) := by decide +kernel
theorem d_Mo_clear_35 : decode prog_8_method_2_code 35 = .ok (.iload_n 1, 1) := by decide +kernel
theorem d_Mo_clear_36 : decode prog_8_method_2_code 36 = .ok (.iconst 0, 1) := by decide +kernel
theorem d_Mo_clear_37 : decode prog_8_method_2_code 37 = .ok (.iastore, 1) := by decide +kernel
theorem d_Mo_clear_38 : decode prog_8_method_2_code 38 = .ok (.iinc 1 1, 3) := by decide +kernel
theorem d_Mo_clear_41 : decode prog_8_method_2_code 41 = .ok (.goto (-19), 3) := by decide +kernel
theorem d_Mo_clear_44 : decode prog_8_method_2_code 44 = .ok (.iconst 0, 1) := by decide +kernel
theorem d_Mo_clear_45 : decode prog_8_method_2_code 45 = .ok (.istore_n 1, 1) := by decide +kernel
theorem d_Mo_clear_46 : decode prog_8_method_2_code 46 = .ok (.iload_n 1, 1) := by decide +kernel
theorem d_Mo_clear_47 : decode prog_8_method_2_code 47 = .ok (.aload_n 0, 1) := by decide +kernel
theorem d_Mo_clear_48 : decode prog_8_method_2_code 48 = .ok (.getfield 15, 3) := by decide +kernel
theorem d_Mo_clear_51 : decode prog_8_method_2_code 51 = .ok (.arraylength, 1) := by decide +kernel
theorem d_Mo_clear_52 : decode prog_8_method_2_code 52 = .ok (.if_icmp .ge 16, 3) := by decide +kernel
theorem d_Mo_clear_55 : decode prog_8_method_2_code 55 = .ok (.aload_n 0, 1) := by decide +kernel
theorem d_Mo_clear_56 : decode prog_8_method_2_code 56 = .ok (.getfield 15, 3) := by decide +kernel
theorem d_Mo_clear_59 : decode prog_8_method_2_code 59 = .ok (.iload_n 1, 1) := by decide +kernel
theorem d_Mo_clear_60 : decode prog_8_method_2_code 60 = .ok (.iconst 0, 1) := by decide +kernel
theorem d_Mo_clear_61 : decode prog_8_method_2_code 61 = .ok (.iastore, 1) := by decide +kernel
theorem d_Mo_clear_62 : decode prog_8_method_2_code 62 = .ok (.iinc 1 1, 3) := by decide +kernel
theorem d_Mo_clear_65 : decode prog_8_method_2_code 65 = .ok (.goto (-19), 3) := by decide +kernel
theorem d_Mo_clear_68 : decode prog_8_method_2_code 68 = .ok (.return_, 1) := by decide +kernel
theorem d_Mr_takes_0 : decode prog_9_method_8_code 0 = .ok (.aload_n 0, 1) := by decide +kernel
theorem d_Mr_takes_1 : decode prog_9_method_8_code 1 = .ok (.getfield 18, 3) := by decide +kernel
theorem d_Mr_takes_4 : decode prog_9_method_8_code 4 = .ok (.aload_n 0, 1) := by decide +kernel
theorem d_Mr_takes_5 : decode prog_9_method_8_code 5 = .ok (.getfield 25, 3) := by decide +kernel
theorem d_Mr_takes_8 : decode prog_9_method_8_code 8 = .ok (.invokevirtual 76, 3) := by decide +kernel
theorem d_Mr_takes_11 : decode prog_9_method_8_code 11 = .ok (.iload_n 1, 1) := by decide +kernel
theorem d_Mr_takes_12 : decode prog_9_method_8_code 12 = .ok (.if_icmp .eq 5, 3) := by decide +kernel
theorem d_Mr_takes_15 : decode prog_9_method_8_code 15 = .ok (.iconst 0, 1) := by decide +kernel
theorem d_Mr_takes_16 : decode prog_9_method_8_code 16 = .ok (.ireturn, 1) := by decide +kernel
theorem d_Mr_takes_17 : decode prog_9_method_8_code 17 = .ok (.aload_n 0, 1) := by decide +kernel
theorem d_Mr_takes_18 : decode prog_9_method_8_code 18 = .ok (.dup, 1) := by decide +kernel
theorem d_Mr_takes_19 : decode prog_9_method_8_code 19 = .ok (.getfield 25, 3) := by decide +kernel
theorem d_Mr_takes_22 : decode prog_9_method_8_code 22 = .ok (.iconst 1, 1) := by decide +kernel
theorem d_Mr_takes_23 : decode prog_9_method_8_code 23 = .ok (.iadd, 1) := by decide +kernel
theorem d_Mr_takes_24 : decode prog_9_method_8_code 24 = .ok (.putfield 25, 3) := by decide +kernel
theorem d_Mr_takes_27 : decode prog_9_method_8_code 27 = .ok (.iconst 1, 1) := by decide +kernel
theorem d_Mr_takes_28 : decode prog_9_method_8_code 28 = .ok (.ireturn, 1) := by decide +kernel
theorem d_Mo_complete_0 : decode prog_8_method_5_code 0 = .ok (.aload_n 0, 1) := by decide +kernel
theorem d_Mo_complete_1 : decode prog_8_method_5_code 1 = .ok (.getfield 9, 3) := by decide +kernel
theorem d_Mo_complete_4 : decode prog_8_method_5_code 4 = .ok (.bipush 10, 2) := by decide +kernel
theorem d_Mo_complete_6 : decode prog_8_method_5_code 6 = .ok (.iload_n 1, 1) := by decide +kernel
theorem d_Mo_complete_7 : decode prog_8_method_5_code 7 = .ok (.iastore, 1) := by decide +kernel
theorem d_Mo_complete_8 : decode prog_8_method_5_code 8 = .ok (.aload_n 0, 1) := by decide +kernel
theorem d_Mo_complete_9 : decode prog_8_method_5_code 9 = .ok (.iload_n 3, 1) := by decide +kernel
theorem d_Mo_complete_10 : decode prog_8_method_5_code 10 = .ok (.ifCond .eq 12, 3) := by decide +kernel
theorem d_Mo_complete_13 : decode prog_8_method_5_code 13 = .ok (.iload_n 2, 1) := by decide +kernel
theorem d_Mo_complete_14 : decode prog_8_method_5_code 14 = .ok (.aload_n 0, 1) := by decide +kernel
theorem d_Mo_complete_15 : decode prog_8_method_5_code 15 = .ok (.invokevirtual 36, 3) := by decide +kernel
theorem d_Mo_complete_18 : decode prog_8_method_5_code 18 = .ok (.ior, 1) := by decide +kernel
theorem d_Mo_complete_19 : decode prog_8_method_5_code 19 = .ok (.goto 4, 3) := by decide +kernel
theorem d_Mo_complete_22 : decode prog_8_method_5_code 22 = .ok (.iload_n 2, 1) := by decide +kernel
theorem d_Mo_complete_23 : decode prog_8_method_5_code 23 = .ok (.putfield 29, 3) := by decide +kernel
theorem d_Mo_complete_26 : decode prog_8_method_5_code 26 = .ok (.aload_n 0, 1) := by decide +kernel
theorem d_Mo_complete_27 : decode prog_8_method_5_code 27 = .ok (.iconst 1, 1) := by decide +kernel
theorem d_Mo_complete_28 : decode prog_8_method_5_code 28 = .ok (.putfield 18, 3) := by decide +kernel
theorem d_Mo_complete_31 : decode prog_8_method_5_code 31 = .ok (.return_, 1) := by decide +kernel
theorem d_Mo_start_0 : decode prog_8_method_7_code 0 = .ok (.sipush 1024, 3) := by decide +kernel
theorem d_Mo_start_3 : decode prog_8_method_7_code 3 = .ok (.ireturn, 1) := by decide +kernel
theorem d_Mr_readsExpression_0 : decode prog_9_method_3_code 0 = .ok (.iload_n 1, 1) := by decide +kernel
theorem d_Mr_readsExpression_1 : decode prog_9_method_3_code 1 = .ok (.bipush 6, 2) := by decide +kernel
theorem d_Mr_readsExpression_3 : decode prog_9_method_3_code 3 = .ok (.if_icmp .gt 11, 3) := by decide +kernel
theorem d_Mr_readsExpression_6 : decode prog_9_method_3_code 6 = .ok (.aload_n 0, 1) := by decide +kernel
theorem d_Mr_readsExpression_7 : decode prog_9_method_3_code 7 = .ok (.iload_n 1, 1) := by decide +kernel
theorem d_Mr_readsExpression_8 : decode prog_9_method_3_code 8 = .ok (.invokevirtual 59, 3) := by decide +kernel
theorem d_Mr_readsExpression_11 : decode prog_9_method_3_code 11 = .ok (.ifCond .ne 5, 3) := by decide +kernel
theorem d_Mr_readsExpression_14 : decode prog_9_method_3_code 14 = .ok (.iconst 0, 1) := by decide +kernel
theorem d_Mr_readsExpression_15 : decode prog_9_method_3_code 15 = .ok (.ireturn, 1) := by decide +kernel
theorem d_Mr_readsExpression_16 : decode prog_9_method_3_code 16 = .ok (.iconst 0, 1) := by decide +kernel
theorem d_Mr_readsExpression_17 : decode prog_9_method_3_code 17 = .ok (.istore_n 2, 1) := by decide +kernel
theorem d_Mr_readsExpression_18 : decode prog_9_method_3_code 18 = .ok (.iload_n 2, 1) := by decide +kernel
theorem d_Mr_readsExpression_19 : decode prog_9_method_3_code 19 = .ok (.bipush 40, 2) := by decide +kernel
theorem d_Mr_readsExpression_21 : decode prog_9_method_3_code 21 = .ok (.if_icmp .ge 87, 3) := by decide +kernel
theorem d_Mr_readsExpression_24 : decode prog_9_method_3_code 24 = .ok (.aload_n 0, 1) := by decide +kernel
theorem d_Mr_readsExpression_25 : decode prog_9_method_3_code 25 = .ok (.bipush 124, 2) := by decide +kernel
theorem d_Mr_readsExpression_27 : decode prog_9_method_3_code 27 = .ok (.invokevirtual 29, 3) := by decide +kernel
theorem d_Mr_readsExpression_30 : decode prog_9_method_3_code 30 = .ok (.ifCond .eq 78, 3) := by decide +kernel
theorem d_Mr_readsExpression_33 : decode prog_9_method_3_code 33 = .ok (.aload_n 0, 1) := by decide +kernel
theorem d_Mr_readsExpression_34 : decode prog_9_method_3_code 34 = .ok (.getfield 50, 3) := by decide +kernel
theorem d_Mr_readsExpression_37 : decode prog_9_method_3_code 37 = .ok (.istore_n 3, 1) := by decide +kernel
theorem d_Mr_readsExpression_38 : decode prog_9_method_3_code 38 = .ok (.aload_n 0, 1) := by decide +kernel
theorem d_Mr_readsExpression_39 : decode prog_9_method_3_code 39 = .ok (.getfield 53, 3) := by decide +kernel
theorem d_Mr_readsExpression_42 : decode prog_9_method_3_code 42 = .ok (.istore 4, 2) := by decide +kernel
theorem d_Mr_readsExpression_44 : decode prog_9_method_3_code 44 = .ok (.aload_n 0, 1) := by decide +kernel
theorem d_Mr_readsExpression_45 : decode prog_9_method_3_code 45 = .ok (.getfield 56, 3) := by decide +kernel
theorem d_Mr_readsExpression_48 : decode prog_9_method_3_code 48 = .ok (.istore 5, 2) := by decide +kernel
theorem d_Mr_readsExpression_50 : decode prog_9_method_3_code 50 = .ok (.aload_n 0, 1) := by decide +kernel
theorem d_Mr_readsExpression_51 : decode prog_9_method_3_code 51 = .ok (.iload_n 1, 1) := by decide +kernel
theorem d_Mr_readsExpression_52 : decode prog_9_method_3_code 52 = .ok (.invokevirtual 59, 3) := by decide +kernel
theorem d_Mr_readsExpression_55 : decode prog_9_method_3_code 55 = .ok (.ifCond .ne 5, 3) := by decide +kernel
theorem d_Mr_readsExpression_58 : decode prog_9_method_3_code 58 = .ok (.iconst 0, 1) := by decide +kernel
theorem d_Mr_readsExpression_59 : decode prog_9_method_3_code 59 = .ok (.ireturn, 1) := by decide +kernel
theorem d_Mr_readsExpression_60 : decode prog_9_method_3_code 60 = .ok (.aload_n 0, 1) := by decide +kernel
theorem d_Mr_readsExpression_61 : decode prog_9_method_3_code 61 = .ok (.dup, 1) := by decide +kernel
theorem d_Mr_readsExpression_62 : decode prog_9_method_3_code 62 = .ok (.getfield 50, 3) := by decide +kernel
theorem d_Mr_readsExpression_65 : decode prog_9_method_3_code 65 = .ok (.iload_n 3, 1) := by decide +kernel
theorem d_Mr_readsExpression_66 : decode prog_9_method_3_code 66 = .ok (.ior, 1) := by decide +kernel
theorem d_Mr_readsExpression_67 : decode prog_9_method_3_code 67 = .ok (.putfield 50, 3) := by decide +kernel
theorem d_Mr_readsExpression_70 : decode prog_9_method_3_code 70 = .ok (.aload_n 0, 1) := by decide +kernel
theorem d_Mr_readsExpression_71 : decode prog_9_method_3_code 71 = .ok (.dup, 1) := by decide +kernel
theorem d_Mr_readsExpression_72 : decode prog_9_method_3_code 72 = .ok (.getfield 53, 3) := by decide +kernel
theorem d_Mr_readsExpression_75 : decode prog_9_method_3_code 75 = .ok (.iload 4, 2) := by decide +kernel
theorem d_Mr_readsExpression_77 : decode prog_9_method_3_code 77 = .ok (.ior, 1) := by decide +kernel
theorem d_Mr_readsExpression_78 : decode prog_9_method_3_code 78 = .ok (.putfield 53, 3) := by decide +kernel
theorem d_Mr_readsExpression_81 : decode prog_9_method_3_code 81 = .ok (.aload_n 0, 1) := by decide +kernel
theorem d_Mr_readsExpression_82 : decode prog_9_method_3_code 82 = .ok (.aload_n 0, 1) := by decide +kernel
theorem d_Mr_readsExpression_83 : decode prog_9_method_3_code 83 = .ok (.getfield 56, 3) := by decide +kernel
theorem d_Mr_readsExpression_86 : decode prog_9_method_3_code 86 = .ok (.ifCond .ne 8, 3) := by decide +kernel
theorem d_Mr_readsExpression_89 : decode prog_9_method_3_code 89 = .ok (.iload 5, 2) := by decide +kernel
theorem d_Mr_readsExpression_91 : decode prog_9_method_3_code 91 = .ok (.ifCond .eq 7, 3) := by decide +kernel
theorem d_Mr_readsExpression_94 : decode prog_9_method_3_code 94 = .ok (.iconst 1, 1) := by decide +kernel
theorem d_Mr_readsExpression_95 : decode prog_9_method_3_code 95 = .ok (.goto 4, 3) := by decide +kernel
theorem d_Mr_readsExpression_98 : decode prog_9_method_3_code 98 = .ok (.iconst 0, 1) := by decide +kernel
theorem d_Mr_readsExpression_99 : decode prog_9_method_3_code 99 = .ok (.putfield 56, 3) := by decide +kernel
theorem d_Mr_readsExpression_102 : decode prog_9_method_3_code 102 = .ok (.iinc 2 1, 3) := by decide +kernel
theorem d_Mr_readsExpression_105 : decode prog_9_method_3_code 105 = .ok (.goto (-87), 3) := by decide +kernel
theorem d_Mr_readsExpression_108 : decode prog_9_method_3_code 108 = .ok (.iconst 1, 1) := by decide +kernel
theorem d_Mr_readsExpression_109 : decode prog_9_method_3_code 109 = .ok (.ireturn, 1) := by decide +kernel
theorem d_Mr_readsSequence_0 : decode prog_9_method_4_code 0 = .ok (.aload_n 0, 1) := by decide +kernel
theorem d_Mr_readsSequence_1 : decode prog_9_method_4_code 1 = .ok (.iload_n 1, 1) := by decide +kernel
theorem d_Mr_readsSequence_2 : decode prog_9_method_4_code 2 = .ok (.invokevirtual 62, 3) := by decide +kernel
theorem d_Mr_readsSequence_5 : decode prog_9_method_4_code 5 = .ok (.ifCond .ne 5, 3) := by decide +kernel
theorem d_Mr_readsSequence_8 : decode prog_9_method_4_code 8 = .ok (.iconst 0, 1) := by decide +kernel
theorem d_Mr_readsSequence_9 : decode prog_9_method_4_code 9 = .ok (.ireturn, 1) := by decide +kernel
theorem d_Mr_readsSequence_10 : decode prog_9_method_4_code 10 = .ok (.iconst 0, 1) := by decide +kernel
theorem d_Mr_readsSequence_11 : decode prog_9_method_4_code 11 = .ok (.istore_n 2, 1) := by decide +kernel
theorem d_Mr_readsSequence_12 : decode prog_9_method_4_code 12 = .ok (.iload_n 2, 1) := by decide +kernel
theorem d_Mr_readsSequence_13 : decode prog_9_method_4_code 13 = .ok (.bipush 40, 2) := by decide +kernel
theorem d_Mr_readsSequence_15 : decode prog_9_method_4_code 15 = .ok (.if_icmp .ge 123, 3) := by decide +kernel
theorem d_Mr_readsSequence_18 : decode prog_9_method_4_code 18 = .ok (.aload_n 0, 1) := by decide +kernel
theorem d_Mr_readsSequence_19 : decode prog_9_method_4_code 19 = .ok (.bipush 44, 2) := by decide +kernel
theorem d_Mr_readsSequence_21 : decode prog_9_method_4_code 21 = .ok (.invokevirtual 29, 3) := by decide +kernel
theorem d_Mr_readsSequence_24 : decode prog_9_method_4_code 24 = .ok (.ifCond .eq 114, 3) := by decide +kernel
theorem d_Mr_readsSequence_27 : decode prog_9_method_4_code 27 = .ok (.aload_n 0, 1) := by decide +kernel
theorem d_Mr_readsSequence_28 : decode prog_9_method_4_code 28 = .ok (.getfield 50, 3) := by decide +kernel
theorem d_Mr_readsSequence_31 : decode prog_9_method_4_code 31 = .ok (.istore_n 3, 1) := by decide +kernel
theorem d_Mr_readsSequence_32 : decode prog_9_method_4_code 32 = .ok (.aload_n 0, 1) := by decide +kernel
theorem d_Mr_readsSequence_33 : decode prog_9_method_4_code 33 = .ok (.getfield 53, 3) := by decide +kernel
theorem d_Mr_readsSequence_36 : decode prog_9_method_4_code 36 = .ok (.istore 4, 2) := by decide +kernel
theorem d_Mr_readsSequence_38 : decode prog_9_method_4_code 38 = .ok (.aload_n 0, 1) := by decide +kernel
theorem d_Mr_readsSequence_39 : decode prog_9_method_4_code 39 = .ok (.getfield 56, 3) := by decide +kernel
theorem d_Mr_readsSequence_42 : decode prog_9_method_4_code 42 = .ok (.istore 5, 2) := by decide +kernel
theorem d_Mr_readsSequence_44 : decode prog_9_method_4_code 44 = .ok (.aload_n 0, 1) := by decide +kernel
theorem d_Mr_readsSequence_45 : decode prog_9_method_4_code 45 = .ok (.iload_n 1, 1) := by decide +kernel
theorem d_Mr_readsSequence_46 : decode prog_9_method_4_code 46 = .ok (.invokevirtual 62, 3) := by decide +kernel
theorem d_Mr_readsSequence_49 : decode prog_9_method_4_code 49 = .ok (.ifCond .ne 5, 3) := by decide +kernel
theorem d_Mr_readsSequence_52 : decode prog_9_method_4_code 52 = .ok (.iconst 0, 1) := by decide +kernel
theorem d_Mr_readsSequence_53 : decode prog_9_method_4_code 53 = .ok (.ireturn, 1) := by decide +kernel
theorem d_Mr_readsSequence_54 : decode prog_9_method_4_code 54 = .ok (.aload_n 0, 1) := by decide +kernel
theorem d_Mr_readsSequence_55 : decode prog_9_method_4_code 55 = .ok (.getfield 12, 3) := by decide +kernel
theorem d_Mr_readsSequence_58 : decode prog_9_method_4_code 58 = .ok (.iload 4, 2) := by decide +kernel
theorem d_Mr_readsSequence_60 : decode prog_9_method_4_code 60 = .ok (.aload_n 0, 1) := by decide +kernel
theorem d_Mr_readsSequence_61 : decode prog_9_method_4_code 61 = .ok (.getfield 50, 3) := by decide +kernel
theorem d_Mr_readsSequence_64 : decode prog_9_method_4_code 64 = .ok (.invokevirtual 65, 3) := by decide +kernel
theorem d_Mr_readsSequence_67 : decode prog_9_method_4_code 67 = .ok (.aload_n 0, 1) := by decide +kernel
theorem d_Mr_readsSequence_68 : decode prog_9_method_4_code 68 = .ok (.iload 5, 2) := by decide +kernel
theorem d_Mr_readsSequence_70 : decode prog_9_method_4_code 70 = .ok (.ifCond .eq 12, 3) := by decide +kernel
theorem d_Mr_readsSequence_73 : decode prog_9_method_4_code 73 = .ok (.iload_n 3, 1) := by decide +kernel
theorem d_Mr_readsSequence_74 : decode prog_9_method_4_code 74 = .ok (.aload_n 0, 1) := by decide +kernel
theorem d_Mr_readsSequence_75 : decode prog_9_method_4_code 75 = .ok (.getfield 50, 3) := by decide +kernel
theorem d_Mr_readsSequence_78 : decode prog_9_method_4_code 78 = .ok (.ior, 1) := by decide +kernel
theorem d_Mr_readsSequence_79 : decode prog_9_method_4_code 79 = .ok (.goto 4, 3) := by decide +kernel
theorem d_Mr_readsSequence_82 : decode prog_9_method_4_code 82 = .ok (.iload_n 3, 1) := by decide +kernel
theorem d_Mr_readsSequence_83 : decode prog_9_method_4_code 83 = .ok (.putfield 50, 3) := by decide +kernel
theorem d_Mr_readsSequence_86 : decode prog_9_method_4_code 86 = .ok (.aload_n 0, 1) := by decide +kernel
theorem d_Mr_readsSequence_87 : decode prog_9_method_4_code 87 = .ok (.aload_n 0, 1) := by decide +kernel
theorem d_Mr_readsSequence_88 : decode prog_9_method_4_code 88 = .ok (.getfield 56, 3) := by decide +kernel
theorem d_Mr_readsSequence_91 : decode prog_9_method_4_code 91 = .ok (.ifCond .eq 13, 3) := by decide +kernel
theorem d_Mr_readsSequence_94 : decode prog_9_method_4_code 94 = .ok (.iload 4, 2) := by decide +kernel
theorem d_Mr_readsSequence_96 : decode prog_9_method_4_code 96 = .ok (.aload_n 0, 1) := by decide +kernel
theorem d_Mr_readsSequence_97 : decode prog_9_method_4_code 97 = .ok (.getfield 53, 3) := by decide +kernel
theorem d_Mr_readsSequence_100 : decode prog_9_method_4_code 100 = .ok (.ior, 1) := by decide +kernel
theorem d_Mr_readsSequence_101 : decode prog_9_method_4_code 101 = .ok (.goto 7, 3) := by decide +kernel
theorem d_Mr_readsSequence_104 : decode prog_9_method_4_code 104 = .ok (.aload_n 0, 1) := by decide +kernel
theorem d_Mr_readsSequence_105 : decode prog_9_method_4_code 105 = .ok (.getfield 53, 3) := by decide +kernel
theorem d_Mr_readsSequence_108 : decode prog_9_method_4_code 108 = .ok (.putfield 53, 3) := by decide +kernel
theorem d_Mr_readsSequence_111 : decode prog_9_method_4_code 111 = .ok (.aload_n 0, 1) := by decide +kernel
theorem d_Mr_readsSequence_112 : decode prog_9_method_4_code 112 = .ok (.aload_n 0, 1) := by decide +kernel
theorem d_Mr_readsSequence_113 : decode prog_9_method_4_code 113 = .ok (.getfield 56, 3) := by decide +kernel
theorem d_Mr_readsSequence_116 : decode prog_9_method_4_code 116 = .ok (.ifCond .eq 12, 3) := by decide +kernel
theorem d_Mr_readsSequence_119 : decode prog_9_method_4_code 119 = .ok (.iload 5, 2) := by decide +kernel
theorem d_Mr_readsSequence_121 : decode prog_9_method_4_code 121 = .ok (.ifCond .eq 7, 3) := by decide +kernel
theorem d_Mr_readsSequence_124 : decode prog_9_method_4_code 124 = .ok (.iconst 1, 1) := by decide +kernel
theorem d_Mr_readsSequence_125 : decode prog_9_method_4_code 125 = .ok (.goto 4, 3) := by decide +kernel
theorem d_Mr_readsSequence_128 : decode prog_9_method_4_code 128 = .ok (.iconst 0, 1) := by decide +kernel
theorem d_Mr_readsSequence_129 : decode prog_9_method_4_code 129 = .ok (.putfield 56, 3) := by decide +kernel
theorem d_Mr_readsSequence_132 : decode prog_9_method_4_code 132 = .ok (.iinc 2 1, 3) := by decide +kernel
theorem d_Mr_readsSequence_135 : decode prog_9_method_4_code 135 = .ok (.goto (-123), 3) := by decide +kernel
theorem d_Mr_readsSequence_138 : decode prog_9_method_4_code 138 = .ok (.iconst 1, 1) := by decide +kernel
theorem d_Mr_readsSequence_139 : decode prog_9_method_4_code 139 = .ok (.ireturn, 1) := by decide +kernel
theorem d_Mr_readsItem_0 : decode prog_9_method_5_code 0 = .ok (.aload_n 0, 1) := by decide +kernel
theorem d_Mr_readsItem_1 : decode prog_9_method_5_code 1 = .ok (.bipush 40, 2) := by decide +kernel
theorem d_Mr_readsItem_3 : decode prog_9_method_5_code 3 = .ok (.invokevirtual 29, 3) := by decide +kernel
theorem d_Mr_readsItem_6 : decode prog_9_method_5_code 6 = .ok (.ifCond .eq 24, 3) := by decide +kernel
theorem d_Mr_readsItem_9 : decode prog_9_method_5_code 9 = .ok (.aload_n 0, 1) := by decide +kernel
theorem d_Mr_readsItem_10 : decode prog_9_method_5_code 10 = .ok (.iload_n 1, 1) := by decide +kernel
theorem d_Mr_readsItem_11 : decode prog_9_method_5_code 11 = .ok (.iconst 1, 1) := by decide +kernel
theorem d_Mr_readsItem_12 : decode prog_9_method_5_code 12 = .ok (.iadd, 1) := by decide +kernel
theorem d_Mr_readsItem_13 : decode prog_9_method_5_code 13 = .ok (.invokevirtual 46, 3) := by decide +kernel
theorem d_Mr_readsItem_16 : decode prog_9_method_5_code 16 = .ok (.ifCond .eq 12, 3) := by decide +kernel
theorem d_Mr_readsItem_19 : decode prog_9_method_5_code 19 = .ok (.aload_n 0, 1) := by decide +kernel
theorem d_Mr_readsItem_20 : decode prog_9_method_5_code 20 = .ok (.bipush 41, 2) := by decide +kernel
theorem d_Mr_readsItem_22 : decode prog_9_method_5_code 22 = .ok (.invokevirtual 29, 3) := by decide +kernel
theorem d_Mr_readsItem_25 : decode prog_9_method_5_code 25 = .ok (.ifCond .ne 14, 3) := by decide +kernel
theorem d_Mr_readsItem_28 : decode prog_9_method_5_code 28 = .ok (.iconst 0, 1) := by decide +kernel
theorem d_Mr_readsItem_29 : decode prog_9_method_5_code 29 = .ok (.ireturn, 1) := by decide +kernel
theorem d_Mr_readsItem_30 : decode prog_9_method_5_code 30 = .ok (.aload_n 0, 1) := by decide +kernel
theorem d_Mr_readsItem_31 : decode prog_9_method_5_code 31 = .ok (.invokevirtual 69, 3) := by decide +kernel
theorem d_Mr_readsItem_34 : decode prog_9_method_5_code 34 = .ok (.ifCond .ne 5, 3) := by decide +kernel
theorem d_Mr_readsItem_37 : decode prog_9_method_5_code 37 = .ok (.iconst 0, 1) := by decide +kernel
theorem d_Mr_readsItem_38 : decode prog_9_method_5_code 38 = .ok (.ireturn, 1) := by decide +kernel
theorem d_Mr_readsItem_39 : decode prog_9_method_5_code 39 = .ok (.aload_n 0, 1) := by decide +kernel
theorem d_Mr_readsItem_40 : decode prog_9_method_5_code 40 = .ok (.invokevirtual 73, 3) := by decide +kernel
theorem d_Mr_readsItem_43 : decode prog_9_method_5_code 43 = .ok (.iconst 1, 1) := by decide +kernel
theorem d_Mr_readsItem_44 : decode prog_9_method_5_code 44 = .ok (.ireturn, 1) := by decide +kernel
theorem d_Mr_readsName_0 : decode prog_9_method_6_code 0 = .ok (.aload_n 0, 1) := by decide +kernel
theorem d_Mr_readsName_1 : decode prog_9_method_6_code 1 = .ok (.getfield 12, 3) := by decide +kernel
theorem d_Mr_readsName_4 : decode prog_9_method_6_code 4 = .ok (.aload_n 0, 1) := by decide +kernel
theorem d_Mr_readsName_5 : decode prog_9_method_6_code 5 = .ok (.getfield 18, 3) := by decide +kernel
theorem d_Mr_readsName_8 : decode prog_9_method_6_code 8 = .ok (.aload_n 0, 1) := by decide +kernel
theorem d_Mr_readsName_9 : decode prog_9_method_6_code 9 = .ok (.getfield 25, 3) := by decide +kernel
theorem d_Mr_readsName_12 : decode prog_9_method_6_code 12 = .ok (.invokevirtual 76, 3) := by decide +kernel
theorem d_Mr_readsName_15 : decode prog_9_method_6_code 15 = .ok (.invokevirtual 80, 3) := by decide +kernel
theorem d_Mr_readsName_18 : decode prog_9_method_6_code 18 = .ok (.istore_n 1, 1) := by decide +kernel
theorem d_Mr_readsName_19 : decode prog_9_method_6_code 19 = .ok (.iload_n 1, 1) := by decide +kernel
theorem d_Mr_readsName_20 : decode prog_9_method_6_code 20 = .ok (.ifCond .ne 5, 3) := by decide +kernel
theorem d_Mr_readsName_23 : decode prog_9_method_6_code 23 = .ok (.iconst 0, 1) := by decide +kernel
theorem d_Mr_readsName_24 : decode prog_9_method_6_code 24 = .ok (.ireturn, 1) := by decide +kernel
theorem d_Mr_readsName_25 : decode prog_9_method_6_code 25 = .ok (.aload_n 0, 1) := by decide +kernel
theorem d_Mr_readsName_26 : decode prog_9_method_6_code 26 = .ok (.dup, 1) := by decide +kernel
theorem d_Mr_readsName_27 : decode prog_9_method_6_code 27 = .ok (.getfield 25, 3) := by decide +kernel
theorem d_Mr_readsName_30 : decode prog_9_method_6_code 30 = .ok (.iconst 1, 1) := by decide +kernel
theorem d_Mr_readsName_31 : decode prog_9_method_6_code 31 = .ok (.iadd, 1) := by decide +kernel
theorem d_Mr_readsName_32 : decode prog_9_method_6_code 32 = .ok (.putfield 25, 3) := by decide +kernel
theorem d_Mr_readsName_35 : decode prog_9_method_6_code 35 = .ok (.aload_n 0, 1) := by decide +kernel
theorem d_Mr_readsName_36 : decode prog_9_method_6_code 36 = .ok (.iload_n 1, 1) := by decide +kernel
theorem d_Mr_readsName_37 : decode prog_9_method_6_code 37 = .ok (.putfield 50, 3) := by decide +kernel
theorem d_Mr_readsName_40 : decode prog_9_method_6_code 40 = .ok (.aload_n 0, 1) := by decide +kernel
theorem d_Mr_readsName_41 : decode prog_9_method_6_code 41 = .ok (.iload_n 1, 1) := by decide +kernel
theorem d_Mr_readsName_42 : decode prog_9_method_6_code 42 = .ok (.putfield 53, 3) := by decide +kernel
theorem d_Mr_readsName_45 : decode prog_9_method_6_code 45 = .ok (.aload_n 0, 1) := by decide +kernel
theorem d_Mr_readsName_46 : decode prog_9_method_6_code 46 = .ok (.iconst 0, 1) := by decide +kernel
theorem d_Mr_readsName_47 : decode prog_9_method_6_code 47 = .ok (.putfield 56, 3) := by decide +kernel
theorem d_Mr_readsName_50 : decode prog_9_method_6_code 50 = .ok (.iconst 1, 1) := by decide +kernel
theorem d_Mr_readsName_51 : decode prog_9_method_6_code 51 = .ok (.ireturn, 1) := by decide +kernel
theorem d_Mo_addState_0 : decode prog_8_method_3_code 0 = .ok (.aload_n 0, 1) := by decide +kernel
theorem d_Mo_addState_1 : decode prog_8_method_3_code 1 = .ok (.getfield 25, 3) := by decide +kernel
theorem d_Mo_addState_4 : decode prog_8_method_3_code 4 = .ok (.bipush 10, 2) := by decide +kernel
theorem d_Mo_addState_6 : decode prog_8_method_3_code 6 = .ok (.if_icmp .ge 10, 3) := by decide +kernel
theorem d_Mo_addState_9 : decode prog_8_method_3_code 9 = .ok (.iload_n 1, 1) := by decide +kernel
theorem d_Mo_addState_10 : decode prog_8_method_3_code 10 = .ok (.invokestatic 32, 3) := by decide +kernel
theorem d_Mo_addState_13 : decode prog_8_method_3_code 13 = .ok (.ifCond .ne 5, 3) := by decide +kernel
theorem d_Mo_addState_16 : decode prog_8_method_3_code 16 = .ok (.iconst 0, 1) := by decide +kernel
theorem d_Mo_addState_17 : decode prog_8_method_3_code 17 = .ok (.ireturn, 1) := by decide +kernel
theorem d_Mo_addState_18 : decode prog_8_method_3_code 18 = .ok (.iconst 1, 1) := by decide +kernel
theorem d_Mo_addState_19 : decode prog_8_method_3_code 19 = .ok (.aload_n 0, 1) := by decide +kernel
theorem d_Mo_addState_20 : decode prog_8_method_3_code 20 = .ok (.getfield 25, 3) := by decide +kernel
theorem d_Mo_addState_23 : decode prog_8_method_3_code 23 = .ok (.ishl, 1) := by decide +kernel
theorem d_Mo_addState_24 : decode prog_8_method_3_code 24 = .ok (.istore_n 2, 1) := by decide +kernel
theorem d_Mo_addState_25 : decode prog_8_method_3_code 25 = .ok (.aload_n 0, 1) := by decide +kernel
theorem d_Mo_addState_26 : decode prog_8_method_3_code 26 = .ok (.dup, 1) := by decide +kernel
theorem d_Mo_addState_27 : decode prog_8_method_3_code 27 = .ok (.getfield 25, 3) := by decide +kernel
theorem d_Mo_addState_30 : decode prog_8_method_3_code 30 = .ok (.iconst 1, 1) := by decide +kernel
theorem d_Mo_addState_31 : decode prog_8_method_3_code 31 = .ok (.iadd, 1) := by decide +kernel
theorem d_Mo_addState_32 : decode prog_8_method_3_code 32 = .ok (.putfield 25, 3) := by decide +kernel
theorem d_Mo_addState_35 : decode prog_8_method_3_code 35 = .ok (.aload_n 0, 1) := by decide +kernel
theorem d_Mo_addState_36 : decode prog_8_method_3_code 36 = .ok (.getfield 15, 3) := by decide +kernel
theorem d_Mo_addState_39 : decode prog_8_method_3_code 39 = .ok (.iload_n 1, 1) := by decide +kernel
theorem d_Mo_addState_40 : decode prog_8_method_3_code 40 = .ok (.bipush 97, 2) := by decide +kernel
theorem d_Mo_addState_42 : decode prog_8_method_3_code 42 = .ok (.isub, 1) := by decide +kernel
theorem d_Mo_addState_43 : decode prog_8_method_3_code 43 = .ok (.dup2, 1) := by decide +kernel
theorem d_Mo_addState_44 : decode prog_8_method_3_code 44 = .ok (.iaload, 1) := by decide +kernel
theorem d_Mo_addState_45 : decode prog_8_method_3_code 45 = .ok (.iload_n 2, 1) := by decide +kernel
theorem d_Mo_addState_46 : decode prog_8_method_3_code 46 = .ok (.ior, 1) := by decide +kernel
theorem d_Mo_addState_47 : decode prog_8_method_3_code 47 = .ok (.iastore, 1) := by decide +kernel
theorem d_Mo_addState_48 : decode prog_8_method_3_code 48 = .ok (.iload_n 2, 1) := by decide +kernel
theorem d_Mo_addState_49 : decode prog_8_method_3_code 49 = .ok (.ireturn, 1) := by decide +kernel
theorem d_Mr_readMark_0 : decode prog_9_method_7_code 0 = .ok (.aload_n 0, 1) := by decide +kernel
theorem d_Mr_readMark_1 : decode prog_9_method_7_code 1 = .ok (.bipush 63, 2) := by decide +kernel
theorem d_Mr_readMark_3 : decode prog_9_method_7_code 3 = .ok (.invokevirtual 29, 3) := by decide +kernel
theorem d_Mr_readMark_6 : decode prog_9_method_7_code 6 = .ok (.ifCond .eq 11, 3) := by decide +kernel
theorem d_Mr_readMark_9 : decode prog_9_method_7_code 9 = .ok (.aload_n 0, 1) := by decide +kernel
theorem d_Mr_readMark_10 : decode prog_9_method_7_code 10 = .ok (.iconst 1, 1) := by decide +kernel
theorem d_Mr_readMark_11 : decode prog_9_method_7_code 11 = .ok (.putfield 56, 3) := by decide +kernel
theorem d_Mr_readMark_14 : decode prog_9_method_7_code 14 = .ok (.goto 59, 3) := by decide +kernel
theorem d_Mr_readMark_17 : decode prog_9_method_7_code 17 = .ok (.aload_n 0, 1) := by decide +kernel
theorem d_Mr_readMark_18 : decode prog_9_method_7_code 18 = .ok (.bipush 42, 2) := by decide +kernel
theorem d_Mr_readMark_20 : decode prog_9_method_7_code 20 = .ok (.invokevirtual 29, 3) := by decide +kernel
theorem d_Mr_readMark_23 : decode prog_9_method_7_code 23 = .ok (.ifCond .eq 26, 3) := by decide +kernel
theorem d_Mr_readMark_26 : decode prog_9_method_7_code 26 = .ok (.aload_n 0, 1) := by decide +kernel
theorem d_Mr_readMark_27 : decode prog_9_method_7_code 27 = .ok (.getfield 12, 3) := by decide +kernel
theorem d_Mr_readMark_30 : decode prog_9_method_7_code 30 = .ok (.aload_n 0, 1) := by decide +kernel
theorem d_Mr_readMark_31 : decode prog_9_method_7_code 31 = .ok (.getfield 53, 3) := by decide +kernel
theorem d_Mr_readMark_34 : decode prog_9_method_7_code 34 = .ok (.aload_n 0, 1) := by decide +kernel
theorem d_Mr_readMark_35 : decode prog_9_method_7_code 35 = .ok (.getfield 50, 3) := by decide +kernel
theorem d_Mr_readMark_38 : decode prog_9_method_7_code 38 = .ok (.invokevirtual 65, 3) := by decide +kernel
theorem d_Mr_readMark_41 : decode prog_9_method_7_code 41 = .ok (.aload_n 0, 1) := by decide +kernel
theorem d_Mr_readMark_42 : decode prog_9_method_7_code 42 = .ok (.iconst 1, 1) := by decide +kernel
theorem d_Mr_readMark_43 : decode prog_9_method_7_code 43 = .ok (.putfield 56, 3) := by decide +kernel
theorem d_Mr_readMark_46 : decode prog_9_method_7_code 46 = .ok (.goto 27, 3) := by decide +kernel
theorem d_Mr_readMark_49 : decode prog_9_method_7_code 49 = .ok (.aload_n 0, 1) := by decide +kernel
theorem d_Mr_readMark_50 : decode prog_9_method_7_code 50 = .ok (.bipush 43, 2) := by decide +kernel
theorem d_Mr_readMark_52 : decode prog_9_method_7_code 52 = .ok (.invokevirtual 29, 3) := by decide +kernel
theorem d_Mr_readMark_55 : decode prog_9_method_7_code 55 = .ok (.ifCond .eq 18, 3) := by decide +kernel
theorem d_Mr_readMark_58 : decode prog_9_method_7_code 58 = .ok (.aload_n 0, 1) := by decide +kernel
theorem d_Mr_readMark_59 : decode prog_9_method_7_code 59 = .ok (.getfield 12, 3) := by decide +kernel
theorem d_Mr_readMark_62 : decode prog_9_method_7_code 62 = .ok (.aload_n 0, 1) := by decide +kernel
theorem d_Mr_readMark_63 : decode prog_9_method_7_code 63 = .ok (.getfield 53, 3) := by decide +kernel
theorem d_Mr_readMark_66 : decode prog_9_method_7_code 66 = .ok (.aload_n 0, 1) := by decide +kernel
theorem d_Mr_readMark_67 : decode prog_9_method_7_code 67 = .ok (.getfield 50, 3) := by decide +kernel
theorem d_Mr_readMark_70 : decode prog_9_method_7_code 70 = .ok (.invokevirtual 65, 3) := by decide +kernel
theorem d_Mr_readMark_73 : decode prog_9_method_7_code 73 = .ok (.return_, 1) := by decide +kernel
theorem d_Mo_join_0 : decode prog_8_method_4_code 0 = .ok (.iconst 0, 1) := by decide +kernel
theorem d_Mo_join_1 : decode prog_8_method_4_code 1 = .ok (.istore_n 3, 1) := by decide +kernel
theorem d_Mo_join_2 : decode prog_8_method_4_code 2 = .ok (.iload_n 3, 1) := by decide +kernel
theorem d_Mo_join_3 : decode prog_8_method_4_code 3 = .ok (.aload_n 0, 1) := by decide +kernel
theorem d_Mo_join_4 : decode prog_8_method_4_code 4 = .ok (.getfield 9, 3) := by decide +kernel
theorem d_Mo_join_7 : decode prog_8_method_4_code 7 = .ok (.arraylength, 1) := by decide +kernel
theorem d_Mo_join_8 : decode prog_8_method_4_code 8 = .ok (.if_icmp .ge 27, 3) := by decide +kernel
theorem d_Mo_join_11 : decode prog_8_method_4_code 11 = .ok (.iload_n 1, 1) := by decide +kernel
theorem d_Mo_join_12 : decode prog_8_method_4_code 12 = .ok (.iload_n 3, 1) := by decide +kernel
theorem d_Mo_join_13 : decode prog_8_method_4_code 13 = .ok (.ishr, 1) := by decide +kernel
theorem d_Mo_join_14 : decode prog_8_method_4_code 14 = .ok (.iconst 1, 1) := by decide +kernel
theorem d_Mo_join_15 : decode prog_8_method_4_code 15 = .ok (.iand, 1) := by decide +kernel
theorem d_Mo_join_16 : decode prog_8_method_4_code 16 = .ok (.ifCond .eq 13, 3) := by decide +kernel
theorem d_Mo_join_19 : decode prog_8_method_4_code 19 = .ok (.aload_n 0, 1) := by decide +kernel
theorem d_Mo_join_20 : decode prog_8_method_4_code 20 = .ok (.getfield 9, 3) := by decide +kernel
theorem d_Mo_join_23 : decode prog_8_method_4_code 23 = .ok (.iload_n 3, 1) := by decide +kernel
theorem d_Mo_join_24 : decode prog_8_method_4_code 24 = .ok (.dup2, 1) := by decide +kernel
theorem d_Mo_join_25 : decode prog_8_method_4_code 25 = .ok (.iaload, 1) := by decide +kernel
theorem d_Mo_join_26 : decode prog_8_method_4_code 26 = .ok (.iload_n 2, 1) := by decide +kernel
theorem d_Mo_join_27 : decode prog_8_method_4_code 27 = .ok (.ior, 1) := by decide +kernel
theorem d_Mo_join_28 : decode prog_8_method_4_code 28 = .ok (.iastore, 1) := by decide +kernel
theorem d_Mo_join_29 : decode prog_8_method_4_code 29 = .ok (.iinc 3 1, 3) := by decide +kernel
theorem d_Mo_join_32 : decode prog_8_method_4_code 32 = .ok (.goto (-30), 3) := by decide +kernel
theorem d_Mo_join_35 : decode prog_8_method_4_code 35 = .ok (.return_, 1) := by decide +kernel
theorem d_Ms_useSpareFor_0 : decode prog_10_method_3_code 0 = .ok (.aload_n 0, 1) := by decide +kernel
theorem d_Ms_useSpareFor_1 : decode prog_10_method_3_code 1 = .ok (.getfield 11, 3) := by decide +kernel
theorem d_Ms_useSpareFor_4 : decode prog_10_method_3_code 4 = .ok (.iload_n 1, 1) := by decide +kernel
theorem d_Ms_useSpareFor_5 : decode prog_10_method_3_code 5 = .ok (.invokestatic 22, 3) := by decide +kernel
theorem d_Ms_useSpareFor_8 : decode prog_10_method_3_code 8 = .ok (.aaload, 1) := by decide +kernel
theorem d_Ms_useSpareFor_9 : decode prog_10_method_3_code 9 = .ok (.astore_n 2, 1) := by decide +kernel
theorem d_Ms_useSpareFor_10 : decode prog_10_method_3_code 10 = .ok (.aload_n 0, 1) := by decide +kernel
theorem d_Ms_useSpareFor_11 : decode prog_10_method_3_code 11 = .ok (.getfield 11, 3) := by decide +kernel
theorem d_Ms_useSpareFor_14 : decode prog_10_method_3_code 14 = .ok (.iload_n 1, 1) := by decide +kernel
theorem d_Ms_useSpareFor_15 : decode prog_10_method_3_code 15 = .ok (.invokestatic 22, 3) := by decide +kernel
theorem d_Ms_useSpareFor_18 : decode prog_10_method_3_code 18 = .ok (.aload_n 0, 1) := by decide +kernel
theorem d_Ms_useSpareFor_19 : decode prog_10_method_3_code 19 = .ok (.getfield 18, 3) := by decide +kernel
theorem d_Ms_useSpareFor_22 : decode prog_10_method_3_code 22 = .ok (.aastore, 1) := by decide +kernel
theorem d_Ms_useSpareFor_23 : decode prog_10_method_3_code 23 = .ok (.aload_n 0, 1) := by decide +kernel
theorem d_Ms_useSpareFor_24 : decode prog_10_method_3_code 24 = .ok (.aload_n 2, 1) := by decide +kernel
theorem d_Ms_useSpareFor_25 : decode prog_10_method_3_code 25 = .ok (.putfield 18, 3) := by decide +kernel
theorem d_Ms_useSpareFor_28 : decode prog_10_method_3_code 28 = .ok (.aload_n 0, 1) := by decide +kernel
theorem d_Ms_useSpareFor_29 : decode prog_10_method_3_code 29 = .ok (.invokevirtual 26, 3) := by decide +kernel
theorem d_Ms_useSpareFor_32 : decode prog_10_method_3_code 32 = .ok (.return_, 1) := by decide +kernel
theorem d_Ms_rowOf_0 : decode prog_10_method_7_code 0 = .ok (.iload_n 0, 1) := by decide +kernel
theorem d_Ms_rowOf_1 : decode prog_10_method_7_code 1 = .ok (.bipush 97, 2) := by decide +kernel
theorem d_Ms_rowOf_3 : decode prog_10_method_7_code 3 = .ok (.isub, 1) := by decide +kernel
theorem d_Ms_rowOf_4 : decode prog_10_method_7_code 4 = .ok (.istore_n 1, 1) := by decide +kernel
theorem d_Ms_rowOf_5 : decode prog_10_method_7_code 5 = .ok (.iload_n 1, 1) := by decide +kernel
theorem d_Ms_rowOf_6 : decode prog_10_method_7_code 6 = .ok (.ifCond .lt 13, 3) := by decide +kernel
theorem d_Ms_rowOf_9 : decode prog_10_method_7_code 9 = .ok (.iload_n 1, 1) := by decide +kernel
theorem d_Ms_rowOf_10 : decode prog_10_method_7_code 10 = .ok (.bipush 8, 2) := by decide +kernel
theorem d_Ms_rowOf_12 : decode prog_10_method_7_code 12 = .ok (.if_icmp .ge 7, 3) := by decide +kernel
theorem d_Ms_rowOf_15 : decode prog_10_method_7_code 15 = .ok (.iload_n 1, 1) := by decide +kernel
theorem d_Ms_rowOf_16 : decode prog_10_method_7_code 16 = .ok (.goto 5, 3) := by decide +kernel
theorem d_Ms_rowOf_19 : decode prog_10_method_7_code 19 = .ok (.bipush 8, 2) := by decide +kernel
theorem d_Ms_rowOf_21 : decode prog_10_method_7_code 21 = .ok (.ireturn, 1) := by decide +kernel
theorem d_Ms_findFertileNames_0 : decode prog_10_method_8_code 0 = .ok (.aload_n 0, 1) := by decide +kernel
theorem d_Ms_findFertileNames_1 : decode prog_10_method_8_code 1 = .ok (.iconst 0, 1) := by decide +kernel
theorem d_Ms_findFertileNames_2 : decode prog_10_method_8_code 2 = .ok (.putfield 67, 3) := by decide +kernel
theorem d_Ms_findFertileNames_5 : decode prog_10_method_8_code 5 = .ok (.iconst 0, 1) := by decide +kernel
theorem d_Ms_findFertileNames_6 : decode prog_10_method_8_code 6 = .ok (.istore_n 1, 1) := by decide +kernel
theorem d_Ms_findFertileNames_7 : decode prog_10_method_8_code 7 = .ok (.iload_n 1, 1) := by decide +kernel
theorem d_Ms_findFertileNames_8 : decode prog_10_method_8_code 8 = .ok (.bipush 8, 2) := by decide +kernel
theorem d_Ms_findFertileNames_10 : decode prog_10_method_8_code 10 = .ok (.if_icmp .ge 81, 3) := by decide +kernel
theorem d_Ms_findFertileNames_13 : decode prog_10_method_8_code 13 = .ok (.aload_n 0, 1) := by decide +kernel
theorem d_Ms_findFertileNames_14 : decode prog_10_method_8_code 14 = .ok (.getfield 67, 3) := by decide +kernel
theorem d_Ms_findFertileNames_17 : decode prog_10_method_8_code 17 = .ok (.istore_n 2, 1) := by decide +kernel
theorem d_Ms_findFertileNames_18 : decode prog_10_method_8_code 18 = .ok (.iconst 0, 1) := by decide +kernel
theorem d_Ms_findFertileNames_19 : decode prog_10_method_8_code 19 = .ok (.istore_n 3, 1) := by decide +kernel
theorem d_Ms_findFertileNames_20 : decode prog_10_method_8_code 20 = .ok (.iload_n 3, 1) := by decide +kernel
theorem d_Ms_findFertileNames_21 : decode prog_10_method_8_code 21 = .ok (.bipush 8, 2) := by decide +kernel
theorem d_Ms_findFertileNames_23 : decode prog_10_method_8_code 23 = .ok (.if_icmp .ge 51, 3) := by decide +kernel
theorem d_Ms_findFertileNames_26 : decode prog_10_method_8_code 26 = .ok (.aload_n 0, 1) := by decide +kernel
theorem d_Ms_findFertileNames_27 : decode prog_10_method_8_code 27 = .ok (.getfield 11, 3) := by decide +kernel
theorem d_Ms_findFertileNames_30 : decode prog_10_method_8_code 30 = .ok (.iload_n 3, 1) := by decide +kernel
theorem d_Ms_findFertileNames_31 : decode prog_10_method_8_code 31 = .ok (.aaload, 1) := by decide +kernel
theorem d_Ms_findFertileNames_32 : decode prog_10_method_8_code 32 = .ok (.astore 4, 2) := by decide +kernel
theorem d_Ms_findFertileNames_34 : decode prog_10_method_8_code 34 = .ok (.aload 4, 2) := by decide +kernel
theorem d_Ms_findFertileNames_36 : decode prog_10_method_8_code 36 = .ok (.aload 4, 2) := by decide +kernel
theorem d_Ms_findFertileNames_38 : decode prog_10_method_8_code 38 = .ok (.aload 4, 2) := by decide +kernel
theorem d_Ms_findFertileNames_40 : decode prog_10_method_8_code 40 = .ok (.invokevirtual 45, 3) := by decide +kernel
theorem d_Ms_findFertileNames_43 : decode prog_10_method_8_code 43 = .ok (.aload_n 0, 1) := by decide +kernel
theorem d_Ms_findFertileNames_44 : decode prog_10_method_8_code 44 = .ok (.getfield 67, 3) := by decide +kernel
theorem d_Ms_findFertileNames_47 : decode prog_10_method_8_code 47 = .ok (.invokevirtual 74, 3) := by decide +kernel
theorem d_Ms_findFertileNames_50 : decode prog_10_method_8_code 50 = .ok (.invokevirtual 53, 3) := by decide +kernel
theorem d_Ms_findFertileNames_53 : decode prog_10_method_8_code 53 = .ok (.ifCond .eq 15, 3) := by decide +kernel
theorem d_Ms_findFertileNames_56 : decode prog_10_method_8_code 56 = .ok (.aload_n 0, 1) := by decide +kernel
theorem d_Ms_findFertileNames_57 : decode prog_10_method_8_code 57 = .ok (.dup, 1) := by decide +kernel
theorem d_Ms_findFertileNames_58 : decode prog_10_method_8_code 58 = .ok (.getfield 67, 3) := by decide +kernel
theorem d_Ms_findFertileNames_61 : decode prog_10_method_8_code 61 = .ok (.iconst 1, 1) := by decide +kernel
theorem d_Ms_findFertileNames_62 : decode prog_10_method_8_code 62 = .ok (.iload_n 3, 1) := by decide +kernel
theorem d_Ms_findFertileNames_63 : decode prog_10_method_8_code 63 = .ok (.ishl, 1) := by decide +kernel
theorem d_Ms_findFertileNames_64 : decode prog_10_method_8_code 64 = .ok (.ior, 1) := by decide +kernel
theorem d_Ms_findFertileNames_65 : decode prog_10_method_8_code 65 = .ok (.putfield 67, 3) := by decide +kernel
theorem d_Ms_findFertileNames_68 : decode prog_10_method_8_code 68 = .ok (.iinc 3 1, 3) := by decide +kernel
theorem d_Ms_findFertileNames_71 : decode prog_10_method_8_code 71 = .ok (.goto (-51), 3) := by decide +kernel
theorem d_Ms_findFertileNames_74 : decode prog_10_method_8_code 74 = .ok (.aload_n 0, 1) := by decide +kernel
theorem d_Ms_findFertileNames_75 : decode prog_10_method_8_code 75 = .ok (.getfield 67, 3) := by decide +kernel
theorem d_Ms_findFertileNames_78 : decode prog_10_method_8_code 78 = .ok (.iload_n 2, 1) := by decide +kernel
theorem d_Ms_findFertileNames_79 : decode prog_10_method_8_code 79 = .ok (.if_icmp .ne 6, 3) := by decide +kernel
theorem d_Ms_findFertileNames_82 : decode prog_10_method_8_code 82 = .ok (.goto 9, 3) := by decide +kernel
theorem d_Ms_findFertileNames_85 : decode prog_10_method_8_code 85 = .ok (.iinc 1 1, 3) := by decide +kernel
theorem d_Ms_findFertileNames_88 : decode prog_10_method_8_code 88 = .ok (.goto (-81), 3) := by decide +kernel
theorem d_Ms_findFertileNames_91 : decode prog_10_method_8_code 91 = .ok (.return_, 1) := by decide +kernel
theorem d_Mo_spread_0 : decode prog_8_method_10_code 0 = .ok (.iconst 0, 1) := by decide +kernel
theorem d_Mo_spread_1 : decode prog_8_method_10_code 1 = .ok (.istore_n 3, 1) := by decide +kernel
theorem d_Mo_spread_2 : decode prog_8_method_10_code 2 = .ok (.iconst 0, 1) := by decide +kernel
theorem d_Mo_spread_3 : decode prog_8_method_10_code 3 = .ok (.istore 4, 2) := by decide +kernel
theorem d_Mo_spread_5 : decode prog_8_method_10_code 5 = .ok (.iload 4, 2) := by decide +kernel
theorem d_Mo_spread_7 : decode prog_8_method_10_code 7 = .ok (.bipush 8, 2) := by decide +kernel
theorem d_Mo_spread_9 : decode prog_8_method_10_code 9 = .ok (.if_icmp .ge 28, 3) := by decide +kernel
theorem d_Mo_spread_12 : decode prog_8_method_10_code 12 = .ok (.iload_n 2, 1) := by decide +kernel
theorem d_Mo_spread_13 : decode prog_8_method_10_code 13 = .ok (.iload 4, 2) := by decide +kernel
theorem d_Mo_spread_15 : decode prog_8_method_10_code 15 = .ok (.ishr, 1) := by decide +kernel
theorem d_Mo_spread_16 : decode prog_8_method_10_code 16 = .ok (.iconst 1, 1) := by decide +kernel
theorem d_Mo_spread_17 : decode prog_8_method_10_code 17 = .ok (.iand, 1) := by decide +kernel
theorem d_Mo_spread_18 : decode prog_8_method_10_code 18 = .ok (.ifCond .eq 13, 3) := by decide +kernel
theorem d_Mo_spread_21 : decode prog_8_method_10_code 21 = .ok (.iload_n 3, 1) := by decide +kernel
theorem d_Mo_spread_22 : decode prog_8_method_10_code 22 = .ok (.aload_n 0, 1) := by decide +kernel
theorem d_Mo_spread_23 : decode prog_8_method_10_code 23 = .ok (.getfield 15, 3) := by decide +kernel
theorem d_Mo_spread_26 : decode prog_8_method_10_code 26 = .ok (.iload 4, 2) := by decide +kernel
theorem d_Mo_spread_28 : decode prog_8_method_10_code 28 = .ok (.iaload, 1) := by decide +kernel
theorem d_Mo_spread_29 : decode prog_8_method_10_code 29 = .ok (.ior, 1) := by decide +kernel
theorem d_Mo_spread_30 : decode prog_8_method_10_code 30 = .ok (.istore_n 3, 1) := by decide +kernel
theorem d_Mo_spread_31 : decode prog_8_method_10_code 31 = .ok (.iinc 4 1, 3) := by decide +kernel
theorem d_Mo_spread_34 : decode prog_8_method_10_code 34 = .ok (.goto (-29), 3) := by decide +kernel
theorem d_Mo_spread_37 : decode prog_8_method_10_code 37 = .ok (.iload_n 1, 1) := by decide +kernel
theorem d_Mo_spread_38 : decode prog_8_method_10_code 38 = .ok (.istore 4, 2) := by decide +kernel
theorem d_Mo_spread_40 : decode prog_8_method_10_code 40 = .ok (.iconst 0, 1) := by decide +kernel
theorem d_Mo_spread_41 : decode prog_8_method_10_code 41 = .ok (.istore 5, 2) := by decide +kernel
theorem d_Mo_spread_43 : decode prog_8_method_10_code 43 = .ok (.iload 5, 2) := by decide +kernel
theorem d_Mo_spread_45 : decode prog_8_method_10_code 45 = .ok (.bipush 10, 2) := by decide +kernel
theorem d_Mo_spread_47 : decode prog_8_method_10_code 47 = .ok (.if_icmp .gt 36, 3) := by decide +kernel
theorem d_Mo_spread_50 : decode prog_8_method_10_code 50 = .ok (.iload 4, 2) := by decide +kernel
theorem d_Mo_spread_52 : decode prog_8_method_10_code 52 = .ok (.aload_n 0, 1) := by decide +kernel
theorem d_Mo_spread_53 : decode prog_8_method_10_code 53 = .ok (.iload 4, 2) := by decide +kernel
theorem d_Mo_spread_55 : decode prog_8_method_10_code 55 = .ok (.invokevirtual 40, 3) := by decide +kernel
theorem d_Mo_spread_58 : decode prog_8_method_10_code 58 = .ok (.iload_n 3, 1) := by decide +kernel
theorem d_Mo_spread_59 : decode prog_8_method_10_code 59 = .ok (.iand, 1) := by decide +kernel
theorem d_Mo_spread_60 : decode prog_8_method_10_code 60 = .ok (.ior, 1) := by decide +kernel
theorem d_Mo_spread_61 : decode prog_8_method_10_code 61 = .ok (.istore 6, 2) := by decide +kernel
theorem d_Mo_spread_63 : decode prog_8_method_10_code 63 = .ok (.iload 6, 2) := by decide +kernel
theorem d_Mo_spread_65 : decode prog_8_method_10_code 65 = .ok (.iload 4, 2) := by decide +kernel
theorem d_Mo_spread_67 : decode prog_8_method_10_code 67 = .ok (.if_icmp .ne 6, 3) := by decide +kernel
theorem d_Mo_spread_70 : decode prog_8_method_10_code 70 = .ok (.goto 13, 3) := by decide +kernel
theorem d_Mo_spread_73 : decode prog_8_method_10_code 73 = .ok (.iload 6, 2) := by decide +kernel
theorem d_Mo_spread_75 : decode prog_8_method_10_code 75 = .ok (.istore 4, 2) := by decide +kernel
theorem d_Mo_spread_77 : decode prog_8_method_10_code 77 = .ok (.iinc 5 1, 3) := by decide +kernel
theorem d_Mo_spread_80 : decode prog_8_method_10_code 80 = .ok (.goto (-37), 3) := by decide +kernel
theorem d_Mo_spread_83 : decode prog_8_method_10_code 83 = .ok (.iload 4, 2) := by decide +kernel
theorem d_Mo_spread_85 : decode prog_8_method_10_code 85 = .ok (.ireturn, 1) := by decide +kernel
theorem d_Mo_followersOf_0 : decode prog_8_method_11_code 0 = .ok (.iconst 0, 1) := by decide +kernel
theorem d_Mo_followersOf_1 : decode prog_8_method_11_code 1 = .ok (.istore_n 2, 1) := by decide +kernel
theorem d_Mo_followersOf_2 : decode prog_8_method_11_code 2 = .ok (.iconst 0, 1) := by decide +kernel
theorem d_Mo_followersOf_3 : decode prog_8_method_11_code 3 = .ok (.istore_n 3, 1) := by decide +kernel
theorem d_Mo_followersOf_4 : decode prog_8_method_11_code 4 = .ok (.iload_n 3, 1) := by decide +kernel
theorem d_Mo_followersOf_5 : decode prog_8_method_11_code 5 = .ok (.aload_n 0, 1) := by decide +kernel
theorem d_Mo_followersOf_6 : decode prog_8_method_11_code 6 = .ok (.getfield 9, 3) := by decide +kernel
theorem d_Mo_followersOf_9 : decode prog_8_method_11_code 9 = .ok (.arraylength, 1) := by decide +kernel
theorem d_Mo_followersOf_10 : decode prog_8_method_11_code 10 = .ok (.if_icmp .ge 26, 3) := by decide +kernel
theorem d_Mo_followersOf_13 : decode prog_8_method_11_code 13 = .ok (.iload_n 1, 1) := by decide +kernel
theorem d_Mo_followersOf_14 : decode prog_8_method_11_code 14 = .ok (.iload_n 3, 1) := by decide +kernel
theorem d_Mo_followersOf_15 : decode prog_8_method_11_code 15 = .ok (.ishr, 1) := by decide +kernel
theorem d_Mo_followersOf_16 : decode prog_8_method_11_code 16 = .ok (.iconst 1, 1) := by decide +kernel
theorem d_Mo_followersOf_17 : decode prog_8_method_11_code 17 = .ok (.iand, 1) := by decide +kernel
theorem d_Mo_followersOf_18 : decode prog_8_method_11_code 18 = .ok (.ifCond .eq 12, 3) := by decide +kernel
theorem d_Mo_followersOf_21 : decode prog_8_method_11_code 21 = .ok (.iload_n 2, 1) := by decide +kernel
theorem d_Mo_followersOf_22 : decode prog_8_method_11_code 22 = .ok (.aload_n 0, 1) := by decide +kernel
theorem d_Mo_followersOf_23 : decode prog_8_method_11_code 23 = .ok (.getfield 9, 3) := by decide +kernel
theorem d_Mo_followersOf_26 : decode prog_8_method_11_code 26 = .ok (.iload_n 3, 1) := by decide +kernel
theorem d_Mo_followersOf_27 : decode prog_8_method_11_code 27 = .ok (.iaload, 1) := by decide +kernel
theorem d_Mo_followersOf_28 : decode prog_8_method_11_code 28 = .ok (.ior, 1) := by decide +kernel
theorem d_Mo_followersOf_29 : decode prog_8_method_11_code 29 = .ok (.istore_n 2, 1) := by decide +kernel
theorem d_Mo_followersOf_30 : decode prog_8_method_11_code 30 = .ok (.iinc 3 1, 3) := by decide +kernel
theorem d_Mo_followersOf_33 : decode prog_8_method_11_code 33 = .ok (.goto (-29), 3) := by decide +kernel
theorem d_Mo_followersOf_36 : decode prog_8_method_11_code 36 = .ok (.iload_n 2, 1) := by decide +kernel
theorem d_Mo_followersOf_37 : decode prog_8_method_11_code 37 = .ok (.ireturn, 1) := by decide +kernel
theorem d_Mo_accepts_0 : decode prog_8_method_8_code 0 = .ok (.iload_n 1, 1) := by decide +kernel
theorem d_Mo_accepts_1 : decode prog_8_method_8_code 1 = .ok (.aload_n 0, 1) := by decide +kernel
theorem d_Mo_accepts_2 : decode prog_8_method_8_code 2 = .ok (.getfield 29, 3) := by decide +kernel
theorem d_Mo_accepts_5 : decode prog_8_method_8_code 5 = .ok (.iand, 1) := by decide +kernel
theorem d_Mo_accepts_6 : decode prog_8_method_8_code 6 = .ok (.ifCond .eq 7, 3) := by decide +kernel
theorem d_Mo_accepts_9 : decode prog_8_method_8_code 9 = .ok (.iconst 1, 1) := by decide +kernel
theorem d_Mo_accepts_10 : decode prog_8_method_8_code 10 = .ok (.goto 4, 3) := by decide +kernel
theorem d_Mo_accepts_13 : decode prog_8_method_8_code 13 = .ok (.iconst 0, 1) := by decide +kernel
theorem d_Mo_accepts_14 : decode prog_8_method_8_code 14 = .ok (.ireturn, 1) := by decide +kernel
theorem d_Tx_putIn_0 : decode prog_11_method_3_code 0 = .ok (.iload_n 1, 1) := by decide +kernel
theorem d_Tx_putIn_1 : decode prog_11_method_3_code 1 = .ok (.ifCond .lt 27, 3) := by decide +kernel
theorem d_Tx_putIn_4 : decode prog_11_method_3_code 4 = .ok (.iload_n 1, 1) := by decide +kernel
theorem d_Tx_putIn_5 : decode prog_11_method_3_code 5 = .ok (.aload_n 0, 1) := by decide +kernel
theorem d_Tx_putIn_6 : decode prog_11_method_3_code 6 = .ok (.getfield 15, 3) := by decide +kernel
theorem d_Tx_putIn_9 : decode prog_11_method_3_code 9 = .ok (.if_icmp .gt 19, 3) := by decide +kernel
theorem d_Tx_putIn_12 : decode prog_11_method_3_code 12 = .ok (.iload_n 2, 1) := by decide +kernel
theorem d_Tx_putIn_13 : decode prog_11_method_3_code 13 = .ok (.invokestatic 19, 3) := by decide +kernel
theorem d_Tx_putIn_16 : decode prog_11_method_3_code 16 = .ok (.ifCond .eq 12, 3) := by decide +kernel
theorem d_Tx_putIn_19 : decode prog_11_method_3_code 19 = .ok (.aload_n 0, 1) := by decide +kernel
theorem d_Tx_putIn_20 : decode prog_11_method_3_code 20 = .ok (.getfield 15, 3) := by decide +kernel
theorem d_Tx_putIn_23 : decode prog_11_method_3_code 23 = .ok (.bipush 100, 2) := by decide +kernel
theorem d_Tx_putIn_25 : decode prog_11_method_3_code 25 = .ok (.if_icmp .lt 4, 3) := by decide +kernel
theorem d_Tx_putIn_28 : decode prog_11_method_3_code 28 = .ok (.return_, 1) := by decide +kernel
theorem d_Tx_putIn_29 : decode prog_11_method_3_code 29 = .ok (.aload_n 0, 1) := by decide +kernel
theorem d_Tx_putIn_30 : decode prog_11_method_3_code 30 = .ok (.getfield 9, 3) := by decide +kernel
theorem d_Tx_putIn_33 : decode prog_11_method_3_code 33 = .ok (.iload_n 1, 1) := by decide +kernel
theorem d_Tx_putIn_34 : decode prog_11_method_3_code 34 = .ok (.aload_n 0, 1) := by decide +kernel
theorem d_Tx_putIn_35 : decode prog_11_method_3_code 35 = .ok (.getfield 9, 3) := by decide +kernel
theorem d_Tx_putIn_38 : decode prog_11_method_3_code 38 = .ok (.iload_n 1, 1) := by decide +kernel
theorem d_Tx_putIn_39 : decode prog_11_method_3_code 39 = .ok (.iconst 1, 1) := by decide +kernel
theorem d_Tx_putIn_40 : decode prog_11_method_3_code 40 = .ok (.iadd, 1) := by decide +kernel
theorem d_Tx_putIn_41 : decode prog_11_method_3_code 41 = .ok (.aload_n 0, 1) := by decide +kernel
theorem d_Tx_putIn_42 : decode prog_11_method_3_code 42 = .ok (.getfield 15, 3) := by decide +kernel
theorem d_Tx_putIn_45 : decode prog_11_method_3_code 45 = .ok (.iload_n 1, 1) := by decide +kernel
theorem d_Tx_putIn_46 : decode prog_11_method_3_code 46 = .ok (.isub, 1) := by decide +kernel
theorem d_Tx_putIn_47 : decode prog_11_method_3_code 47 = .ok (.invokestatic 23, 3) := by decide +kernel
theorem d_Tx_putIn_50 : decode prog_11_method_3_code 50 = .ok (.aload_n 0, 1) := by decide +kernel
theorem d_Tx_putIn_51 : decode prog_11_method_3_code 51 = .ok (.getfield 9, 3) := by decide +kernel
theorem d_Tx_putIn_54 : decode prog_11_method_3_code 54 = .ok (.iload_n 1, 1) := by decide +kernel
theorem d_Tx_putIn_55 : decode prog_11_method_3_code 55 = .ok (.iload_n 2, 1) := by decide +kernel
theorem d_Tx_putIn_56 : decode prog_11_method_3_code 56 = .ok (.i2c, 1) := by decide +kernel
theorem d_Tx_putIn_57 : decode prog_11_method_3_code 57 = .ok (.castore, 1) := by decide +kernel
theorem d_Tx_putIn_58 : decode prog_11_method_3_code 58 = .ok (.aload_n 0, 1) := by decide +kernel
theorem d_Tx_putIn_59 : decode prog_11_method_3_code 59 = .ok (.dup, 1) := by decide +kernel
theorem d_Tx_putIn_60 : decode prog_11_method_3_code 60 = .ok (.getfield 15, 3) := by decide +kernel
theorem d_Tx_putIn_63 : decode prog_11_method_3_code 63 = .ok (.iconst 1, 1) := by decide +kernel
theorem d_Tx_putIn_64 : decode prog_11_method_3_code 64 = .ok (.iadd, 1) := by decide +kernel
theorem d_Tx_putIn_65 : decode prog_11_method_3_code 65 = .ok (.putfield 15, 3) := by decide +kernel
theorem d_Tx_putIn_68 : decode prog_11_method_3_code 68 = .ok (.return_, 1) := by decide +kernel
theorem d_Tx_takeOut_0 : decode prog_11_method_4_code 0 = .ok (.iload_n 2, 1) := by decide +kernel
theorem d_Tx_takeOut_1 : decode prog_11_method_4_code 1 = .ok (.iconst 1, 1) := by decide +kernel
theorem d_Tx_takeOut_2 : decode prog_11_method_4_code 2 = .ok (.if_icmp .lt 25, 3) := by decide +kernel
theorem d_Tx_takeOut_5 : decode prog_11_method_4_code 5 = .ok (.iload_n 1, 1) := by decide +kernel
theorem d_Tx_takeOut_6 : decode prog_11_method_4_code 6 = .ok (.ifCond .lt 21, 3) := by decide +kernel
theorem d_Tx_takeOut_9 : decode prog_11_method_4_code 9 = .ok (.iload_n 1, 1) := by decide +kernel
theorem d_Tx_takeOut_10 : decode prog_11_method_4_code 10 = .ok (.aload_n 0, 1) := by decide +kernel
theorem d_Tx_takeOut_11 : decode prog_11_method_4_code 11 = .ok (.getfield 15, 3) := by decide +kernel
theorem d_Tx_takeOut_14 : decode prog_11_method_4_code 14 = .ok (.if_icmp .ge 13, 3) := by decide +kernel
theorem d_Tx_takeOut_17 : decode prog_11_method_4_code 17 = .ok (.iload_n 2, 1) := by decide +kernel
theorem d_Tx_takeOut_18 : decode prog_11_method_4_code 18 = .ok (.aload_n 0, 1) := by decide +kernel
theorem d_Tx_takeOut_19 : decode prog_11_method_4_code 19 = .ok (.getfield 15, 3) := by decide +kernel
theorem d_Tx_takeOut_22 : decode prog_11_method_4_code 22 = .ok (.iload_n 1, 1) := by decide +kernel
theorem d_Tx_takeOut_23 : decode prog_11_method_4_code 23 = .ok (.isub, 1) := by decide +kernel
theorem d_Tx_takeOut_24 : decode prog_11_method_4_code 24 = .ok (.if_icmp .le 4, 3) := by decide +kernel
theorem d_Tx_takeOut_27 : decode prog_11_method_4_code 27 = .ok (.return_, 1) := by decide +kernel
theorem d_Tx_takeOut_28 : decode prog_11_method_4_code 28 = .ok (.aload_n 0, 1) := by decide +kernel
theorem d_Tx_takeOut_29 : decode prog_11_method_4_code 29 = .ok (.getfield 9, 3) := by decide +kernel
theorem d_Tx_takeOut_32 : decode prog_11_method_4_code 32 = .ok (.iload_n 1, 1) := by decide +kernel
theorem d_Tx_takeOut_33 : decode prog_11_method_4_code 33 = .ok (.iload_n 2, 1) := by decide +kernel
theorem d_Tx_takeOut_34 : decode prog_11_method_4_code 34 = .ok (.iadd, 1) := by decide +kernel
theorem d_Tx_takeOut_35 : decode prog_11_method_4_code 35 = .ok (.aload_n 0, 1) := by decide +kernel
theorem d_Tx_takeOut_36 : decode prog_11_method_4_code 36 = .ok (.getfield 9, 3) := by decide +kernel
theorem d_Tx_takeOut_39 : decode prog_11_method_4_code 39 = .ok (.iload_n 1, 1) := by decide +kernel
theorem d_Tx_takeOut_40 : decode prog_11_method_4_code 40 = .ok (.aload_n 0, 1) := by decide +kernel
theorem d_Tx_takeOut_41 : decode prog_11_method_4_code 41 = .ok (.getfield 15, 3) := by decide +kernel
theorem d_Tx_takeOut_44 : decode prog_11_method_4_code 44 = .ok (.iload_n 1, 1) := by decide +kernel
theorem d_Tx_takeOut_45 : decode prog_11_method_4_code 45 = .ok (.isub, 1) := by decide +kernel
theorem d_Tx_takeOut_46 : decode prog_11_method_4_code 46 = .ok (.iload_n 2, 1) := by decide +kernel
theorem d_Tx_takeOut_47 : decode prog_11_method_4_code 47 = .ok (.isub, 1) := by decide +kernel
theorem d_Tx_takeOut_48 : decode prog_11_method_4_code 48 = .ok (.invokestatic 23, 3) := by decide +kernel
theorem d_Tx_takeOut_51 : decode prog_11_method_4_code 51 = .ok (.aload_n 0, 1) := by decide +kernel
theorem d_Tx_takeOut_52 : decode prog_11_method_4_code 52 = .ok (.dup, 1) := by decide +kernel
theorem d_Tx_takeOut_53 : decode prog_11_method_4_code 53 = .ok (.getfield 15, 3) := by decide +kernel
theorem d_Tx_takeOut_56 : decode prog_11_method_4_code 56 = .ok (.iload_n 2, 1) := by decide +kernel
theorem d_Tx_takeOut_57 : decode prog_11_method_4_code 57 = .ok (.isub, 1) := by decide +kernel
theorem d_Tx_takeOut_58 : decode prog_11_method_4_code 58 = .ok (.putfield 15, 3) := by decide +kernel
theorem d_Tx_takeOut_61 : decode prog_11_method_4_code 61 = .ok (.return_, 1) := by decide +kernel
theorem d_Tr_read_0 : decode prog_12_method_2_code 0 = .ok (.aload_n 0, 1) := by decide +kernel
theorem d_Tr_read_1 : decode prog_12_method_2_code 1 = .ok (.iconst 0, 1) := by decide +kernel
theorem d_Tr_read_2 : decode prog_12_method_2_code 2 = .ok (.putfield 32, 3) := by decide +kernel
theorem d_Tr_read_5 : decode prog_12_method_2_code 5 = .ok (.aload_n 0, 1) := by decide +kernel
theorem d_Tr_read_6 : decode prog_12_method_2_code 6 = .ok (.iconst 0, 1) := by decide +kernel
theorem d_Tr_read_7 : decode prog_12_method_2_code 7 = .ok (.putfield 36, 3) := by decide +kernel
theorem d_Tr_read_10 : decode prog_12_method_2_code 10 = .ok (.aload_n 0, 1) := by decide +kernel
theorem d_Tr_read_11 : decode prog_12_method_2_code 11 = .ok (.iconst 0, 1) := by decide +kernel
theorem d_Tr_read_12 : decode prog_12_method_2_code 12 = .ok (.putfield 39, 3) := by decide +kernel
theorem d_Tr_read_15 : decode prog_12_method_2_code 15 = .ok (.aload_n 0, 1) := by decide +kernel
theorem d_Tr_read_16 : decode prog_12_method_2_code 16 = .ok (.getfield 11, 3) := by decide +kernel
theorem d_Tr_read_19 : decode prog_12_method_2_code 19 = .ok (.iconst 0, 1) := by decide +kernel
theorem d_Tr_read_20 : decode prog_12_method_2_code 20 = .ok (.aaload, 1) := by decide +kernel
theorem d_Tr_read_21 : decode prog_12_method_2_code 21 = .ok (.bipush 46, 2) := by decide +kernel
theorem d_Tr_read_23 : decode prog_12_method_2_code 23 = .ok (.iconst (-1), 1) := by decide +kernel
theorem d_Tr_read_24 : decode prog_12_method_2_code 24 = .ok (.iconst 0, 1) := by decide +kernel
theorem d_Tr_read_25 : decode prog_12_method_2_code 25 = .ok (.iconst 0, 1) := by decide +kernel
theorem d_Tr_read_26 : decode prog_12_method_2_code 26 = .ok (.iconst 0, 1) := by decide +kernel
theorem d_Tr_read_27 : decode prog_12_method_2_code 27 = .ok (.invokevirtual 42, 3) := by decide +kernel
theorem d_Tr_read_30 : decode prog_12_method_2_code 30 = .ok (.iconst 0, 1) := by decide +kernel
theorem d_Tr_read_31 : decode prog_12_method_2_code 31 = .ok (.istore_n 2, 1) := by decide +kernel
theorem d_Tr_read_32 : decode prog_12_method_2_code 32 = .ok (.iconst 0, 1) := by decide +kernel
theorem d_Tr_read_33 : decode prog_12_method_2_code 33 = .ok (.istore_n 3, 1) := by decide +kernel
theorem d_Tr_read_34 : decode prog_12_method_2_code 34 = .ok (.iload_n 3, 1) := by decide +kernel
theorem d_Tr_read_35 : decode prog_12_method_2_code 35 = .ok (.bipush 100, 2) := by decide +kernel
theorem d_Tr_read_37 : decode prog_12_method_2_code 37 = .ok (.if_icmp .ge 27, 3) := by decide +kernel
theorem d_Tr_read_40 : decode prog_12_method_2_code 40 = .ok (.iload_n 2, 1) := by decide +kernel
theorem d_Tr_read_41 : decode prog_12_method_2_code 41 = .ok (.aload_n 0, 1) := by decide +kernel
theorem d_Tr_read_42 : decode prog_12_method_2_code 42 = .ok (.getfield 27, 3) := by decide +kernel
theorem d_Tr_read_45 : decode prog_12_method_2_code 45 = .ok (.getfield 45, 3) := by decide +kernel
theorem d_Tr_read_48 : decode prog_12_method_2_code 48 = .ok (.if_icmp .ge 16, 3) := by decide +kernel
theorem d_Tr_read_51 : decode prog_12_method_2_code 51 = .ok (.aload_n 0, 1) := by decide +kernel
theorem d_Tr_read_52 : decode prog_12_method_2_code 52 = .ok (.iload_n 2, 1) := by decide +kernel
theorem d_Tr_read_53 : decode prog_12_method_2_code 53 = .ok (.aload_n 1, 1) := by decide +kernel
theorem d_Tr_read_54 : decode prog_12_method_2_code 54 = .ok (.invokevirtual 50, 3) := by decide +kernel
theorem d_Tr_read_57 : decode prog_12_method_2_code 57 = .ok (.istore_n 2, 1) := by decide +kernel
theorem d_Tr_read_58 : decode prog_12_method_2_code 58 = .ok (.iinc 3 1, 3) := by decide +kernel
theorem d_Tr_read_61 : decode prog_12_method_2_code 61 = .ok (.goto (-27), 3) := by decide +kernel
theorem d_Tr_read_64 : decode prog_12_method_2_code 64 = .ok (.aload_n 0, 1) := by decide +kernel
theorem d_Tr_read_65 : decode prog_12_method_2_code 65 = .ok (.iconst 0, 1) := by decide +kernel
theorem d_Tr_read_66 : decode prog_12_method_2_code 66 = .ok (.aload_n 0, 1) := by decide +kernel
theorem d_Tr_read_67 : decode prog_12_method_2_code 67 = .ok (.getfield 27, 3) := by decide +kernel
theorem d_Tr_read_70 : decode prog_12_method_2_code 70 = .ok (.getfield 45, 3) := by decide +kernel
theorem d_Tr_read_73 : decode prog_12_method_2_code 73 = .ok (.invokevirtual 54, 3) := by decide +kernel
theorem d_Tr_read_76 : decode prog_12_method_2_code 76 = .ok (.aload_n 0, 1) := by decide +kernel
theorem d_Tr_read_77 : decode prog_12_method_2_code 77 = .ok (.getfield 11, 3) := by decide +kernel
theorem d_Tr_read_80 : decode prog_12_method_2_code 80 = .ok (.iconst 0, 1) := by decide +kernel
theorem d_Tr_read_81 : decode prog_12_method_2_code 81 = .ok (.aaload, 1) := by decide +kernel
theorem d_Tr_read_82 : decode prog_12_method_2_code 82 = .ok (.iconst 0, 1) := by decide +kernel
theorem d_Tr_read_83 : decode prog_12_method_2_code 83 = .ok (.aload_n 0, 1) := by decide +kernel
theorem d_Tr_read_84 : decode prog_12_method_2_code 84 = .ok (.getfield 27, 3) := by decide +kernel
theorem d_Tr_read_87 : decode prog_12_method_2_code 87 = .ok (.getfield 45, 3) := by decide +kernel
theorem d_Tr_read_90 : decode prog_12_method_2_code 90 = .ok (.aload_n 0, 1) := by decide +kernel
theorem d_Tr_read_91 : decode prog_12_method_2_code 91 = .ok (.getfield 27, 3) := by decide +kernel
theorem d_Tr_read_94 : decode prog_12_method_2_code 94 = .ok (.getfield 45, 3) := by decide +kernel
theorem d_Tr_read_97 : decode prog_12_method_2_code 97 = .ok (.invokevirtual 58, 3) := by decide +kernel
theorem d_Tr_read_100 : decode prog_12_method_2_code 100 = .ok (.return_, 1) := by decide +kernel
theorem d_Tr_take_0 : decode prog_12_method_3_code 0 = .ok (.aload_n 0, 1) := by decide +kernel
theorem d_Tr_take_1 : decode prog_12_method_3_code 1 = .ok (.getfield 27, 3) := by decide +kernel
theorem d_Tr_take_4 : decode prog_12_method_3_code 4 = .ok (.iload_n 1, 1) := by decide +kernel
theorem d_Tr_take_5 : decode prog_12_method_3_code 5 = .ok (.invokevirtual 62, 3) := by decide +kernel
theorem d_Tr_take_8 : decode prog_12_method_3_code 8 = .ok (.tableswitch 67 1 3 #[28, 41, 54], 28) := by decide +kernel
theorem d_Tr_take_36 : decode prog_12_method_3_code 36 = .ok (.aload_n 0, 1) := by decide +kernel
theorem d_Tr_take_37 : decode prog_12_method_3_code 37 = .ok (.iload_n 1, 1) := by decide +kernel
theorem d_Tr_take_38 : decode prog_12_method_3_code 38 = .ok (.iload_n 1, 1) := by decide +kernel
theorem d_Tr_take_39 : decode prog_12_method_3_code 39 = .ok (.iconst 3, 1) := by decide +kernel
theorem d_Tr_take_40 : decode prog_12_method_3_code 40 = .ok (.iadd, 1) := by decide +kernel
theorem d_Tr_take_41 : decode prog_12_method_3_code 41 = .ok (.aload_n 2, 1) := by decide +kernel
theorem d_Tr_take_42 : decode prog_12_method_3_code 42 = .ok (.invokevirtual 66, 3) := by decide +kernel
theorem d_Tr_take_45 : decode prog_12_method_3_code 45 = .ok (.iload_n 1, 1) := by decide +kernel
theorem d_Tr_take_46 : decode prog_12_method_3_code 46 = .ok (.iconst 3, 1) := by decide +kernel
theorem d_Tr_take_47 : decode prog_12_method_3_code 47 = .ok (.iadd, 1) := by decide +kernel
theorem d_Tr_take_48 : decode prog_12_method_3_code 48 = .ok (.ireturn, 1) := by decide +kernel
theorem d_Tr_take_49 : decode prog_12_method_3_code 49 = .ok (.aload_n 0, 1) := by decide +kernel
theorem d_Tr_take_50 : decode prog_12_method_3_code 50 = .ok (.iload_n 1, 1) := by decide +kernel
theorem d_Tr_take_51 : decode prog_12_method_3_code 51 = .ok (.iload_n 1, 1) := by decide +kernel
theorem d_Tr_take_52 : decode prog_12_method_3_code 52 = .ok (.iconst 4, 1) := by decide +kernel
theorem d_Tr_take_53 : decode prog_12_method_3_code 53 = .ok (.iadd, 1) := by decide +kernel
theorem d_Tr_take_54 : decode prog_12_method_3_code 54 = .ok (.aload_n 2, 1) := by decide +kernel
theorem d_Tr_take_55 : decode prog_12_method_3_code 55 = .ok (.invokevirtual 70, 3) := by decide +kernel
theorem d_Tr_take_58 : decode prog_12_method_3_code 58 = .ok (.iload_n 1, 1) := by decide +kernel
theorem d_Tr_take_59 : decode prog_12_method_3_code 59 = .ok (.iconst 4, 1) := by decide +kernel
theorem d_Tr_take_60 : decode prog_12_method_3_code 60 = .ok (.iadd, 1) := by decide +kernel
theorem d_Tr_take_61 : decode prog_12_method_3_code 61 = .ok (.ireturn, 1) := by decide +kernel
theorem d_Tr_take_62 : decode prog_12_method_3_code 62 = .ok (.aload_n 0, 1) := by decide +kernel
theorem d_Tr_take_63 : decode prog_12_method_3_code 63 = .ok (.iload_n 1, 1) := by decide +kernel
theorem d_Tr_take_64 : decode prog_12_method_3_code 64 = .ok (.iload_n 1, 1) := by decide +kernel
theorem d_Tr_take_65 : decode prog_12_method_3_code 65 = .ok (.iconst 4, 1) := by decide +kernel
theorem d_Tr_take_66 : decode prog_12_method_3_code 66 = .ok (.iadd, 1) := by decide +kernel
theorem d_Tr_take_67 : decode prog_12_method_3_code 67 = .ok (.aload_n 2, 1) := by decide +kernel
theorem d_Tr_take_68 : decode prog_12_method_3_code 68 = .ok (.invokevirtual 73, 3) := by decide +kernel
theorem d_Tr_take_71 : decode prog_12_method_3_code 71 = .ok (.iload_n 1, 1) := by decide +kernel
theorem d_Tr_take_72 : decode prog_12_method_3_code 72 = .ok (.iconst 4, 1) := by decide +kernel
theorem d_Tr_take_73 : decode prog_12_method_3_code 73 = .ok (.iadd, 1) := by decide +kernel
theorem d_Tr_take_74 : decode prog_12_method_3_code 74 = .ok (.ireturn, 1) := by decide +kernel
theorem d_Tr_take_75 : decode prog_12_method_3_code 75 = .ok (.aload_n 0, 1) := by decide +kernel
theorem d_Tr_take_76 : decode prog_12_method_3_code 76 = .ok (.iload_n 1, 1) := by decide +kernel
theorem d_Tr_take_77 : decode prog_12_method_3_code 77 = .ok (.aload_n 2, 1) := by decide +kernel
theorem d_Tr_take_78 : decode prog_12_method_3_code 78 = .ok (.invokevirtual 76, 3) := by decide +kernel
theorem d_Tr_take_81 : decode prog_12_method_3_code 81 = .ok (.iload_n 1, 1) := by decide +kernel
theorem d_Tr_take_82 : decode prog_12_method_3_code 82 = .ok (.iconst 1, 1) := by decide +kernel
theorem d_Tr_take_83 : decode prog_12_method_3_code 83 = .ok (.iadd, 1) := by decide +kernel
theorem d_Tr_take_84 : decode prog_12_method_3_code 84 = .ok (.ireturn, 1) := by decide +kernel
theorem d_Tx_tagKindAt_0 : decode prog_11_method_6_code 0 = .ok (.aload_n 0, 1) := by decide +kernel
theorem d_Tx_tagKindAt_1 : decode prog_11_method_6_code 1 = .ok (.iload_n 1, 1) := by decide +kernel
theorem d_Tx_tagKindAt_2 : decode prog_11_method_6_code 2 = .ok (.invokevirtual 29, 3) := by decide +kernel
theorem d_Tx_tagKindAt_5 : decode prog_11_method_6_code 5 = .ok (.bipush 60, 2) := by decide +kernel
theorem d_Tx_tagKindAt_7 : decode prog_11_method_6_code 7 = .ok (.if_icmp .eq 5, 3) := by decide +kernel
theorem d_Tx_tagKindAt_10 : decode prog_11_method_6_code 10 = .ok (.iconst 0, 1) := by decide +kernel
theorem d_Tx_tagKindAt_11 : decode prog_11_method_6_code 11 = .ok (.ireturn, 1) := by decide +kernel
theorem d_Tx_tagKindAt_12 : decode prog_11_method_6_code 12 = .ok (.aload_n 0, 1) := by decide +kernel
theorem d_Tx_tagKindAt_13 : decode prog_11_method_6_code 13 = .ok (.iload_n 1, 1) := by decide +kernel
theorem d_Tx_tagKindAt_14 : decode prog_11_method_6_code 14 = .ok (.iconst 1, 1) := by decide +kernel
theorem d_Tx_tagKindAt_15 : decode prog_11_method_6_code 15 = .ok (.iadd, 1) := by decide +kernel
theorem d_Tx_tagKindAt_16 : decode prog_11_method_6_code 16 = .ok (.invokevirtual 29, 3) := by decide +kernel
theorem d_Tx_tagKindAt_19 : decode prog_11_method_6_code 19 = .ok (.invokestatic 33, 3) := by decide +kernel
theorem d_Tx_tagKindAt_22 : decode prog_11_method_6_code 22 = .ok (.ifCond .eq 47, 3) := by decide +kernel
theorem d_Tx_tagKindAt_25 : decode prog_11_method_6_code 25 = .ok (.aload_n 0, 1) := by decide +kernel
theorem d_Tx_tagKindAt_26 : decode prog_11_method_6_code 26 = .ok (.iload_n 1, 1) := by decide +kernel
theorem d_Tx_tagKindAt_27 : decode prog_11_method_6_code 27 = .ok (.iconst 2, 1) := by decide +kernel
theorem d_Tx_tagKindAt_28 : decode prog_11_method_6_code 28 = .ok (.iadd, 1) := by decide +kernel
theorem d_Tx_tagKindAt_29 : decode prog_11_method_6_code 29 = .ok (.invokevirtual 29, 3) := by decide +kernel
theorem d_Tx_tagKindAt_32 : decode prog_11_method_6_code 32 = .ok (.bipush 62, 2) := by decide +kernel
theorem d_Tx_tagKindAt_34 : decode prog_11_method_6_code 34 = .ok (.if_icmp .ne 5, 3) := by decide +kernel
theorem d_Tx_tagKindAt_37 : decode prog_11_method_6_code 37 = .ok (.iconst 1, 1) := by decide +kernel
theorem d_Tx_tagKindAt_38 : decode prog_11_method_6_code 38 = .ok (.ireturn, 1) := by decide +kernel
theorem d_Tx_tagKindAt_39 : decode prog_11_method_6_code 39 = .ok (.aload_n 0, 1) := by decide +kernel
theorem d_Tx_tagKindAt_40 : decode prog_11_method_6_code 40 = .ok (.iload_n 1, 1) := by decide +kernel
theorem d_Tx_tagKindAt_41 : decode prog_11_method_6_code 41 = .ok (.iconst 2, 1) := by decide +kernel
theorem d_Tx_tagKindAt_42 : decode prog_11_method_6_code 42 = .ok (.iadd, 1) := by decide +kernel
theorem d_Tx_tagKindAt_43 : decode prog_11_method_6_code 43 = .ok (.invokevirtual 29, 3) := by decide +kernel
theorem d_Tx_tagKindAt_46 : decode prog_11_method_6_code 46 = .ok (.bipush 47, 2) := by decide +kernel
theorem d_Tx_tagKindAt_48 : decode prog_11_method_6_code 48 = .ok (.if_icmp .ne 19, 3) := by decide +kernel
theorem d_Tx_tagKindAt_51 : decode prog_11_method_6_code 51 = .ok (.aload_n 0, 1) := by decide +kernel
theorem d_Tx_tagKindAt_52 : decode prog_11_method_6_code 52 = .ok (.iload_n 1, 1) := by decide +kernel
theorem d_Tx_tagKindAt_53 : decode prog_11_method_6_code 53 = .ok (.iconst 3, 1) := by decide +kernel
theorem d_Tx_tagKindAt_54 : decode prog_11_method_6_code 54 = .ok (.iadd, 1) := by decide +kernel
theorem d_Tx_tagKindAt_55 : decode prog_11_method_6_code 55 = .ok (.invokevirtual 29, 3) := by decide +kernel
theorem d_Tx_tagKindAt_58 : decode prog_11_method_6_code 58 = .ok (.bipush 62, 2) := by decide +kernel
theorem d_Tx_tagKindAt_60 : decode prog_11_method_6_code 60 = .ok (.if_icmp .ne 7, 3) := by decide +kernel
theorem d_Tx_tagKindAt_63 : decode prog_11_method_6_code 63 = .ok (.iconst 2, 1) := by decide +kernel
theorem d_Tx_tagKindAt_64 : decode prog_11_method_6_code 64 = .ok (.goto 4, 3) := by decide +kernel
theorem d_Tx_tagKindAt_67 : decode prog_11_method_6_code 67 = .ok (.iconst 0, 1) := by decide +kernel
theorem d_Tx_tagKindAt_68 : decode prog_11_method_6_code 68 = .ok (.ireturn, 1) := by decide +kernel
theorem d_Tx_tagKindAt_69 : decode prog_11_method_6_code 69 = .ok (.aload_n 0, 1) := by decide +kernel
theorem d_Tx_tagKindAt_70 : decode prog_11_method_6_code 70 = .ok (.iload_n 1, 1) := by decide +kernel
theorem d_Tx_tagKindAt_71 : decode prog_11_method_6_code 71 = .ok (.iconst 1, 1) := by decide +kernel
theorem d_Tx_tagKindAt_72 : decode prog_11_method_6_code 72 = .ok (.iadd, 1) := by decide +kernel
theorem d_Tx_tagKindAt_73 : decode prog_11_method_6_code 73 = .ok (.invokevirtual 29, 3) := by decide +kernel
theorem d_Tx_tagKindAt_76 : decode prog_11_method_6_code 76 = .ok (.bipush 47, 2) := by decide +kernel
theorem d_Tx_tagKindAt_78 : decode prog_11_method_6_code 78 = .ok (.if_icmp .ne 32, 3) := by decide +kernel
theorem d_Tx_tagKindAt_81 : decode prog_11_method_6_code 81 = .ok (.aload_n 0, 1) := by decide +kernel
theorem d_Tx_tagKindAt_82 : decode prog_11_method_6_code 82 = .ok (.iload_n 1, 1) := by decide +kernel
theorem d_Tx_tagKindAt_83 : decode prog_11_method_6_code 83 = .ok (.iconst 2, 1) := by decide +kernel
theorem d_Tx_tagKindAt_84 : decode prog_11_method_6_code 84 = .ok (.iadd, 1) := by decide +kernel
theorem d_Tx_tagKindAt_85 : decode prog_11_method_6_code 85 = .ok (.invokevirtual 29, 3) := by decide +kernel
theorem d_Tx_tagKindAt_88 : decode prog_11_method_6_code 88 = .ok (.invokestatic 33, 3) := by decide +kernel
theorem d_Tx_tagKindAt_91 : decode prog_11_method_6_code 91 = .ok (.ifCond .eq 19, 3) := by decide +kernel
theorem d_Tx_tagKindAt_94 : decode prog_11_method_6_code 94 = .ok (.aload_n 0, 1) := by decide +kernel
theorem d_Tx_tagKindAt_95 : decode prog_11_method_6_code 95 = .ok (.iload_n 1, 1) := by decide +kernel
theorem d_Tx_tagKindAt_96 : decode prog_11_method_6_code 96 = .ok (.iconst 3, 1) := by decide +kernel
theorem d_Tx_tagKindAt_97 : decode prog_11_method_6_code 97 = .ok (.iadd, 1) := by decide +kernel
theorem d_Tx_tagKindAt_98 : decode prog_11_method_6_code 98 = .ok (.invokevirtual 29, 3) := by decide +kernel
theorem d_Tx_tagKindAt_101 : decode prog_11_method_6_code 101 = .ok (.bipush 62, 2) := by decide +kernel
theorem d_Tx_tagKindAt_103 : decode prog_11_method_6_code 103 = .ok (.if_icmp .ne 7, 3) := by decide +kernel
theorem d_Tx_tagKindAt_106 : decode prog_11_method_6_code 106 = .ok (.iconst 3, 1) := by decide +kernel
theorem d_Tx_tagKindAt_107 : decode prog_11_method_6_code 107 = .ok (.goto 4, 3) := by decide +kernel
theorem d_Tx_tagKindAt_110 : decode prog_11_method_6_code 110 = .ok (.iconst 0, 1) := by decide +kernel
theorem d_Tx_tagKindAt_111 : decode prog_11_method_6_code 111 = .ok (.ireturn, 1) := by decide +kernel
theorem d_Tx_at_0 : decode prog_11_method_2_code 0 = .ok (.iload_n 1, 1) := by decide +kernel
theorem d_Tx_at_1 : decode prog_11_method_2_code 1 = .ok (.ifCond .lt 20, 3) := by decide +kernel
theorem d_Tx_at_4 : decode prog_11_method_2_code 4 = .ok (.iload_n 1, 1) := by decide +kernel
theorem d_Tx_at_5 : decode prog_11_method_2_code 5 = .ok (.aload_n 0, 1) := by decide +kernel
theorem d_Tx_at_6 : decode prog_11_method_2_code 6 = .ok (.getfield 15, 3) := by decide +kernel
theorem d_Tx_at_9 : decode prog_11_method_2_code 9 = .ok (.if_icmp .ge 12, 3) := by decide +kernel
theorem d_Tx_at_12 : decode prog_11_method_2_code 12 = .ok (.aload_n 0, 1) := by decide +kernel
theorem d_Tx_at_13 : decode prog_11_method_2_code 13 = .ok (.getfield 9, 3) := by decide +kernel
theorem d_Tx_at_16 : decode prog_11_method_2_code 16 = .ok (.iload_n 1, 1) := by decide +kernel
theorem d_Tx_at_17 : decode prog_11_method_2_code 17 = .ok (.caload, 1) := by decide +kernel
theorem d_Tx_at_18 : decode prog_11_method_2_code 18 = .ok (.goto 4, 3) := by decide +kernel
theorem d_Tx_at_21 : decode prog_11_method_2_code 21 = .ok (.iconst (-1), 1) := by decide +kernel
theorem d_Tx_at_22 : decode prog_11_method_2_code 22 = .ok (.ireturn, 1) := by decide +kernel
theorem d_Tr_takeStartTag_0 : decode prog_12_method_5_code 0 = .ok (.aload_n 0, 1) := by decide +kernel
theorem d_Tr_takeStartTag_1 : decode prog_12_method_5_code 1 = .ok (.iload_n 1, 1) := by decide +kernel
theorem d_Tr_takeStartTag_2 : decode prog_12_method_5_code 2 = .ok (.iload_n 2, 1) := by decide +kernel
theorem d_Tr_takeStartTag_3 : decode prog_12_method_5_code 3 = .ok (.aload_n 3, 1) := by decide +kernel
theorem d_Tr_takeStartTag_4 : decode prog_12_method_5_code 4 = .ok (.invokevirtual 90, 3) := by decide +kernel
theorem d_Tr_takeStartTag_7 : decode prog_12_method_5_code 7 = .ok (.ifCond .eq 11, 3) := by decide +kernel
theorem d_Tr_takeStartTag_10 : decode prog_12_method_5_code 10 = .ok (.aload_n 0, 1) := by decide +kernel
theorem d_Tr_takeStartTag_11 : decode prog_12_method_5_code 11 = .ok (.aload_n 0, 1) := by decide +kernel
theorem d_Tr_takeStartTag_12 : decode prog_12_method_5_code 12 = .ok (.getfield 32, 3) := by decide +kernel
theorem d_Tr_takeStartTag_15 : decode prog_12_method_5_code 15 = .ok (.putfield 39, 3) := by decide +kernel
theorem d_Tr_takeStartTag_18 : decode prog_12_method_5_code 18 = .ok (.return_, 1) := by decide +kernel
theorem d_Tr_begins_0 : decode prog_12_method_7_code 0 = .ok (.aload_n 0, 1) := by decide +kernel
theorem d_Tr_begins_1 : decode prog_12_method_7_code 1 = .ok (.getfield 11, 3) := by decide +kernel
theorem d_Tr_begins_4 : decode prog_12_method_7_code 4 = .ok (.aload_n 0, 1) := by decide +kernel
theorem d_Tr_begins_5 : decode prog_12_method_7_code 5 = .ok (.getfield 39, 3) := by decide +kernel
theorem d_Tr_begins_8 : decode prog_12_method_7_code 8 = .ok (.aaload, 1) := by decide +kernel
theorem d_Tr_begins_9 : decode prog_12_method_7_code 9 = .ok (.astore 4, 2) := by decide +kernel
theorem d_Tr_begins_11 : decode prog_12_method_7_code 11 = .ok (.aload 4, 2) := by decide +kernel
theorem d_Tr_begins_13 : decode prog_12_method_7_code 13 = .ok (.getfield 94, 3) := by decide +kernel
theorem d_Tr_begins_16 : decode prog_12_method_7_code 16 = .ok (.bipush 8, 2) := by decide +kernel
theorem d_Tr_begins_18 : decode prog_12_method_7_code 18 = .ok (.if_icmp .ge 12, 3) := by decide +kernel
theorem d_Tr_begins_21 : decode prog_12_method_7_code 21 = .ok (.aload_n 0, 1) := by decide +kernel
theorem d_Tr_begins_22 : decode prog_12_method_7_code 22 = .ok (.getfield 32, 3) := by decide +kernel
theorem d_Tr_begins_25 : decode prog_12_method_7_code 25 = .ok (.bipush 33, 2) := by decide +kernel
theorem d_Tr_begins_27 : decode prog_12_method_7_code 27 = .ok (.if_icmp .lt 18, 3) := by decide +kernel
theorem d_Tr_begins_30 : decode prog_12_method_7_code 30 = .ok (.aload_n 0, 1) := by decide +kernel
theorem d_Tr_begins_31 : decode prog_12_method_7_code 31 = .ok (.iload_n 1, 1) := by decide +kernel
theorem d_Tr_begins_32 : decode prog_12_method_7_code 32 = .ok (.iload_n 2, 1) := by decide +kernel
theorem d_Tr_begins_33 : decode prog_12_method_7_code 33 = .ok (.iconst (-1), 1) := by decide +kernel
theorem d_Tr_begins_34 : decode prog_12_method_7_code 34 = .ok (.invokevirtual 97, 3) := by decide +kernel
theorem d_Tr_begins_37 : decode prog_12_method_7_code 37 = .ok (.aload_n 3, 1) := by decide +kernel
theorem d_Tr_begins_38 : decode prog_12_method_7_code 38 = .ok (.iconst 2, 1) := by decide +kernel
theorem d_Tr_begins_39 : decode prog_12_method_7_code 39 = .ok (.iload_n 1, 1) := by decide +kernel
theorem d_Tr_begins_40 : decode prog_12_method_7_code 40 = .ok (.invokevirtual 85, 3) := by decide +kernel
theorem d_Tr_begins_43 : decode prog_12_method_7_code 43 = .ok (.iconst 0, 1) := by decide +kernel
theorem d_Tr_begins_44 : decode prog_12_method_7_code 44 = .ok (.ireturn, 1) := by decide +kernel
theorem d_Tr_begins_45 : decode prog_12_method_7_code 45 = .ok (.aload_n 0, 1) := by decide +kernel
theorem d_Tr_begins_46 : decode prog_12_method_7_code 46 = .ok (.dup, 1) := by decide +kernel
theorem d_Tr_begins_47 : decode prog_12_method_7_code 47 = .ok (.getfield 32, 3) := by decide +kernel
theorem d_Tr_begins_50 : decode prog_12_method_7_code 50 = .ok (.iconst 1, 1) := by decide +kernel
theorem d_Tr_begins_51 : decode prog_12_method_7_code 51 = .ok (.iadd, 1) := by decide +kernel
theorem d_Tr_begins_52 : decode prog_12_method_7_code 52 = .ok (.putfield 32, 3) := by decide +kernel
theorem d_Tr_begins_55 : decode prog_12_method_7_code 55 = .ok (.aload 4, 2) := by decide +kernel
theorem d_Tr_begins_57 : decode prog_12_method_7_code 57 = .ok (.dup, 1) := by decide +kernel
theorem d_Tr_begins_58 : decode prog_12_method_7_code 58 = .ok (.getfield 100, 3) := by decide +kernel
theorem d_Tr_begins_61 : decode prog_12_method_7_code 61 = .ok (.iconst 1, 1) := by decide +kernel
theorem d_Tr_begins_62 : decode prog_12_method_7_code 62 = .ok (.iadd, 1) := by decide +kernel
theorem d_Tr_begins_63 : decode prog_12_method_7_code 63 = .ok (.putfield 100, 3) := by decide +kernel
theorem d_Tr_begins_66 : decode prog_12_method_7_code 66 = .ok (.aload_n 0, 1) := by decide +kernel
theorem d_Tr_begins_67 : decode prog_12_method_7_code 67 = .ok (.getfield 11, 3) := by decide +kernel
theorem d_Tr_begins_70 : decode prog_12_method_7_code 70 = .ok (.aload_n 0, 1) := by decide +kernel
theorem d_Tr_begins_71 : decode prog_12_method_7_code 71 = .ok (.getfield 32, 3) := by decide +kernel
theorem d_Tr_begins_74 : decode prog_12_method_7_code 74 = .ok (.aaload, 1) := by decide +kernel
theorem d_Tr_begins_75 : decode prog_12_method_7_code 75 = .ok (.aload_n 0, 1) := by decide +kernel
theorem d_Tr_begins_76 : decode prog_12_method_7_code 76 = .ok (.getfield 27, 3) := by decide +kernel
theorem d_Tr_begins_79 : decode prog_12_method_7_code 79 = .ok (.iload_n 1, 1) := by decide +kernel
theorem d_Tr_begins_80 : decode prog_12_method_7_code 80 = .ok (.iconst 1, 1) := by decide +kernel
theorem d_Tr_begins_81 : decode prog_12_method_7_code 81 = .ok (.iadd, 1) := by decide +kernel
theorem d_Tr_begins_82 : decode prog_12_method_7_code 82 = .ok (.invokevirtual 80, 3) := by decide +kernel
theorem d_Tr_begins_85 : decode prog_12_method_7_code 85 = .ok (.aload_n 0, 1) := by decide +kernel
theorem d_Tr_begins_86 : decode prog_12_method_7_code 86 = .ok (.getfield 39, 3) := by decide +kernel
theorem d_Tr_begins_89 : decode prog_12_method_7_code 89 = .ok (.aload 4, 2) := by decide +kernel
theorem d_Tr_begins_91 : decode prog_12_method_7_code 91 = .ok (.getfield 94, 3) := by decide +kernel
theorem d_Tr_begins_94 : decode prog_12_method_7_code 94 = .ok (.iconst 1, 1) := by decide +kernel
theorem d_Tr_begins_95 : decode prog_12_method_7_code 95 = .ok (.iadd, 1) := by decide +kernel
theorem d_Tr_begins_96 : decode prog_12_method_7_code 96 = .ok (.iload_n 1, 1) := by decide +kernel
theorem d_Tr_begins_97 : decode prog_12_method_7_code 97 = .ok (.iload_n 2, 1) := by decide +kernel
theorem d_Tr_begins_98 : decode prog_12_method_7_code 98 = .ok (.invokevirtual 42, 3) := by decide +kernel
theorem d_Tr_begins_101 : decode prog_12_method_7_code 101 = .ok (.aload_n 0, 1) := by decide +kernel
theorem d_Tr_begins_102 : decode prog_12_method_7_code 102 = .ok (.iload_n 1, 1) := by decide +kernel
theorem d_Tr_begins_103 : decode prog_12_method_7_code 103 = .ok (.iload_n 2, 1) := by decide +kernel
theorem d_Tr_begins_104 : decode prog_12_method_7_code 104 = .ok (.aload_n 0, 1) := by decide +kernel
theorem d_Tr_begins_105 : decode prog_12_method_7_code 105 = .ok (.getfield 32, 3) := by decide +kernel
theorem d_Tr_begins_108 : decode prog_12_method_7_code 108 = .ok (.invokevirtual 97, 3) := by decide +kernel
theorem d_Tr_begins_111 : decode prog_12_method_7_code 111 = .ok (.iconst 1, 1) := by decide +kernel
theorem d_Tr_begins_112 : decode prog_12_method_7_code 112 = .ok (.ireturn, 1) := by decide +kernel
theorem d_Tr_addTag_0 : decode prog_12_method_11_code 0 = .ok (.aload_n 0, 1) := by decide +kernel
theorem d_Tr_addTag_1 : decode prog_12_method_11_code 1 = .ok (.getfield 36, 3) := by decide +kernel
theorem d_Tr_addTag_4 : decode prog_12_method_11_code 4 = .ok (.bipush 33, 2) := by decide +kernel
theorem d_Tr_addTag_6 : decode prog_12_method_11_code 6 = .ok (.if_icmp .ge 43, 3) := by decide +kernel
theorem d_Tr_addTag_9 : decode prog_12_method_11_code 9 = .ok (.aload_n 0, 1) := by decide +kernel
theorem d_Tr_addTag_10 : decode prog_12_method_11_code 10 = .ok (.getfield 17, 3) := by decide +kernel
theorem d_Tr_addTag_13 : decode prog_12_method_11_code 13 = .ok (.aload_n 0, 1) := by decide +kernel
theorem d_Tr_addTag_14 : decode prog_12_method_11_code 14 = .ok (.getfield 36, 3) := by decide +kernel
theorem d_Tr_addTag_17 : decode prog_12_method_11_code 17 = .ok (.iload_n 1, 1) := by decide +kernel
theorem d_Tr_addTag_18 : decode prog_12_method_11_code 18 = .ok (.iastore, 1) := by decide +kernel
theorem d_Tr_addTag_19 : decode prog_12_method_11_code 19 = .ok (.aload_n 0, 1) := by decide +kernel
theorem d_Tr_addTag_20 : decode prog_12_method_11_code 20 = .ok (.getfield 21, 3) := by decide +kernel
theorem d_Tr_addTag_23 : decode prog_12_method_11_code 23 = .ok (.aload_n 0, 1) := by decide +kernel
theorem d_Tr_addTag_24 : decode prog_12_method_11_code 24 = .ok (.getfield 36, 3) := by decide +kernel
theorem d_Tr_addTag_27 : decode prog_12_method_11_code 27 = .ok (.iload_n 2, 1) := by decide +kernel
theorem d_Tr_addTag_28 : decode prog_12_method_11_code 28 = .ok (.iastore, 1) := by decide +kernel
theorem d_Tr_addTag_29 : decode prog_12_method_11_code 29 = .ok (.aload_n 0, 1) := by decide +kernel
theorem d_Tr_addTag_30 : decode prog_12_method_11_code 30 = .ok (.getfield 24, 3) := by decide +kernel
theorem d_Tr_addTag_33 : decode prog_12_method_11_code 33 = .ok (.aload_n 0, 1) := by decide +kernel
theorem d_Tr_addTag_34 : decode prog_12_method_11_code 34 = .ok (.getfield 36, 3) := by decide +kernel
theorem d_Tr_addTag_37 : decode prog_12_method_11_code 37 = .ok (.iload_n 3, 1) := by decide +kernel
theorem d_Tr_addTag_38 : decode prog_12_method_11_code 38 = .ok (.iastore, 1) := by decide +kernel
theorem d_Tr_addTag_39 : decode prog_12_method_11_code 39 = .ok (.aload_n 0, 1) := by decide +kernel
theorem d_Tr_addTag_40 : decode prog_12_method_11_code 40 = .ok (.dup, 1) := by decide +kernel
theorem d_Tr_addTag_41 : decode prog_12_method_11_code 41 = .ok (.getfield 36, 3) := by decide +kernel
theorem d_Tr_addTag_44 : decode prog_12_method_11_code 44 = .ok (.iconst 1, 1) := by decide +kernel
theorem d_Tr_addTag_45 : decode prog_12_method_11_code 45 = .ok (.iadd, 1) := by decide +kernel
theorem d_Tr_addTag_46 : decode prog_12_method_11_code 46 = .ok (.putfield 36, 3) := by decide +kernel
theorem d_Tr_addTag_49 : decode prog_12_method_11_code 49 = .ok (.return_, 1) := by decide +kernel
theorem d_Tr_takeEmptyTag_0 : decode prog_12_method_6_code 0 = .ok (.aload_n 0, 1) := by decide +kernel
theorem d_Tr_takeEmptyTag_1 : decode prog_12_method_6_code 1 = .ok (.iload_n 1, 1) := by decide +kernel
theorem d_Tr_takeEmptyTag_2 : decode prog_12_method_6_code 2 = .ok (.iload_n 2, 1) := by decide +kernel
theorem d_Tr_takeEmptyTag_3 : decode prog_12_method_6_code 3 = .ok (.aload_n 3, 1) := by decide +kernel
theorem d_Tr_takeEmptyTag_4 : decode prog_12_method_6_code 4 = .ok (.invokevirtual 90, 3) := by decide +kernel
theorem d_Tr_takeEmptyTag_7 : decode prog_12_method_6_code 7 = .ok (.ifCond .eq 18, 3) := by decide +kernel
theorem d_Tr_takeEmptyTag_10 : decode prog_12_method_6_code 10 = .ok (.aload_n 0, 1) := by decide +kernel
theorem d_Tr_takeEmptyTag_11 : decode prog_12_method_6_code 11 = .ok (.getfield 11, 3) := by decide +kernel
theorem d_Tr_takeEmptyTag_14 : decode prog_12_method_6_code 14 = .ok (.aload_n 0, 1) := by decide +kernel
theorem d_Tr_takeEmptyTag_15 : decode prog_12_method_6_code 15 = .ok (.getfield 32, 3) := by decide +kernel
theorem d_Tr_takeEmptyTag_18 : decode prog_12_method_6_code 18 = .ok (.aaload, 1) := by decide +kernel
theorem d_Tr_takeEmptyTag_19 : decode prog_12_method_6_code 19 = .ok (.iconst 2, 1) := by decide +kernel
theorem d_Tr_takeEmptyTag_20 : decode prog_12_method_6_code 20 = .ok (.iload_n 2, 1) := by decide +kernel
theorem d_Tr_takeEmptyTag_21 : decode prog_12_method_6_code 21 = .ok (.iload_n 2, 1) := by decide +kernel
theorem d_Tr_takeEmptyTag_22 : decode prog_12_method_6_code 22 = .ok (.invokevirtual 58, 3) := by decide +kernel
theorem d_Tr_takeEmptyTag_25 : decode prog_12_method_6_code 25 = .ok (.return_, 1) := by decide +kernel
theorem d_Tr_takeEndTag_0 : decode prog_12_method_8_code 0 = .ok (.aload_n 0, 1) := by decide +kernel
theorem d_Tr_takeEndTag_1 : decode prog_12_method_8_code 1 = .ok (.aload_n 0, 1) := by decide +kernel
theorem d_Tr_takeEndTag_2 : decode prog_12_method_8_code 2 = .ok (.getfield 27, 3) := by decide +kernel
theorem d_Tr_takeEndTag_5 : decode prog_12_method_8_code 5 = .ok (.iload_n 1, 1) := by decide +kernel
theorem d_Tr_takeEndTag_6 : decode prog_12_method_8_code 6 = .ok (.iconst 2, 1) := by decide +kernel
theorem d_Tr_takeEndTag_7 : decode prog_12_method_8_code 7 = .ok (.iadd, 1) := by decide +kernel
theorem d_Tr_takeEndTag_8 : decode prog_12_method_8_code 8 = .ok (.invokevirtual 80, 3) := by decide +kernel
theorem d_Tr_takeEndTag_11 : decode prog_12_method_8_code 11 = .ok (.invokevirtual 103, 3) := by decide +kernel
theorem d_Tr_takeEndTag_14 : decode prog_12_method_8_code 14 = .ok (.istore 4, 2) := by decide +kernel
theorem d_Tr_takeEndTag_16 : decode prog_12_method_8_code 16 = .ok (.iload 4, 2) := by decide +kernel
theorem d_Tr_takeEndTag_18 : decode prog_12_method_8_code 18 = .ok (.ifCond .ne 17, 3) := by decide +kernel
theorem d_Tr_takeEndTag_21 : decode prog_12_method_8_code 21 = .ok (.aload_n 0, 1) := by decide +kernel
theorem d_Tr_takeEndTag_22 : decode prog_12_method_8_code 22 = .ok (.iload_n 1, 1) := by decide +kernel
theorem d_Tr_takeEndTag_23 : decode prog_12_method_8_code 23 = .ok (.iload_n 2, 1) := by decide +kernel
theorem d_Tr_takeEndTag_24 : decode prog_12_method_8_code 24 = .ok (.iconst (-1), 1) := by decide +kernel
theorem d_Tr_takeEndTag_25 : decode prog_12_method_8_code 25 = .ok (.invokevirtual 97, 3) := by decide +kernel
theorem d_Tr_takeEndTag_28 : decode prog_12_method_8_code 28 = .ok (.aload_n 3, 1) := by decide +kernel
theorem d_Tr_takeEndTag_29 : decode prog_12_method_8_code 29 = .ok (.iconst 3, 1) := by decide +kernel
theorem d_Tr_takeEndTag_30 : decode prog_12_method_8_code 30 = .ok (.iload_n 1, 1) := by decide +kernel
theorem d_Tr_takeEndTag_31 : decode prog_12_method_8_code 31 = .ok (.invokevirtual 85, 3) := by decide +kernel
theorem d_Tr_takeEndTag_34 : decode prog_12_method_8_code 34 = .ok (.return_, 1) := by decide +kernel
theorem d_Tr_takeEndTag_35 : decode prog_12_method_8_code 35 = .ok (.aload_n 0, 1) := by decide +kernel
theorem d_Tr_takeEndTag_36 : decode prog_12_method_8_code 36 = .ok (.iload 4, 2) := by decide +kernel
theorem d_Tr_takeEndTag_38 : decode prog_12_method_8_code 38 = .ok (.iload_n 1, 1) := by decide +kernel
theorem d_Tr_takeEndTag_39 : decode prog_12_method_8_code 39 = .ok (.invokevirtual 54, 3) := by decide +kernel
theorem d_Tr_takeEndTag_42 : decode prog_12_method_8_code 42 = .ok (.aload_n 0, 1) := by decide +kernel
theorem d_Tr_takeEndTag_43 : decode prog_12_method_8_code 43 = .ok (.getfield 11, 3) := by decide +kernel
theorem d_Tr_takeEndTag_46 : decode prog_12_method_8_code 46 = .ok (.iload 4, 2) := by decide +kernel
theorem d_Tr_takeEndTag_48 : decode prog_12_method_8_code 48 = .ok (.aaload, 1) := by decide +kernel
theorem d_Tr_takeEndTag_49 : decode prog_12_method_8_code 49 = .ok (.iconst 3, 1) := by decide +kernel
theorem d_Tr_takeEndTag_50 : decode prog_12_method_8_code 50 = .ok (.iload_n 1, 1) := by decide +kernel
theorem d_Tr_takeEndTag_51 : decode prog_12_method_8_code 51 = .ok (.iload_n 2, 1) := by decide +kernel
theorem d_Tr_takeEndTag_52 : decode prog_12_method_8_code 52 = .ok (.invokevirtual 58, 3) := by decide +kernel
theorem d_Tr_takeEndTag_55 : decode prog_12_method_8_code 55 = .ok (.aload_n 0, 1) := by decide +kernel
theorem d_Tr_takeEndTag_56 : decode prog_12_method_8_code 56 = .ok (.aload_n 0, 1) := by decide +kernel
theorem d_Tr_takeEndTag_57 : decode prog_12_method_8_code 57 = .ok (.getfield 11, 3) := by decide +kernel
theorem d_Tr_takeEndTag_60 : decode prog_12_method_8_code 60 = .ok (.iload 4, 2) := by decide +kernel
theorem d_Tr_takeEndTag_62 : decode prog_12_method_8_code 62 = .ok (.aaload, 1) := by decide +kernel
theorem d_Tr_takeEndTag_63 : decode prog_12_method_8_code 63 = .ok (.getfield 106, 3) := by decide +kernel
theorem d_Tr_takeEndTag_66 : decode prog_12_method_8_code 66 = .ok (.putfield 39, 3) := by decide +kernel
theorem d_Tr_takeEndTag_69 : decode prog_12_method_8_code 69 = .ok (.aload_n 0, 1) := by decide +kernel
theorem d_Tr_takeEndTag_70 : decode prog_12_method_8_code 70 = .ok (.iload_n 1, 1) := by decide +kernel
theorem d_Tr_takeEndTag_71 : decode prog_12_method_8_code 71 = .ok (.iload_n 2, 1) := by decide +kernel
theorem d_Tr_takeEndTag_72 : decode prog_12_method_8_code 72 = .ok (.iload 4, 2) := by decide +kernel
theorem d_Tr_takeEndTag_74 : decode prog_12_method_8_code 74 = .ok (.invokevirtual 97, 3) := by decide +kernel
theorem d_Tr_takeEndTag_77 : decode prog_12_method_8_code 77 = .ok (.return_, 1) := by decide +kernel
theorem d_Tr_latestOpenWith_0 : decode prog_12_method_9_code 0 = .ok (.aload_n 0, 1) := by decide +kernel
theorem d_Tr_latestOpenWith_1 : decode prog_12_method_9_code 1 = .ok (.getfield 39, 3) := by decide +kernel
theorem d_Tr_latestOpenWith_4 : decode prog_12_method_9_code 4 = .ok (.istore_n 2, 1) := by decide +kernel
theorem d_Tr_latestOpenWith_5 : decode prog_12_method_9_code 5 = .ok (.iconst 0, 1) := by decide +kernel
theorem d_Tr_latestOpenWith_6 : decode prog_12_method_9_code 6 = .ok (.istore_n 3, 1) := by decide +kernel
theorem d_Tr_latestOpenWith_7 : decode prog_12_method_9_code 7 = .ok (.iload_n 3, 1) := by decide +kernel
theorem d_Tr_latestOpenWith_8 : decode prog_12_method_9_code 8 = .ok (.bipush 8, 2) := by decide +kernel
theorem d_Tr_latestOpenWith_10 : decode prog_12_method_9_code 10 = .ok (.if_icmp .ge 38, 3) := by decide +kernel
theorem d_Tr_latestOpenWith_13 : decode prog_12_method_9_code 13 = .ok (.iload_n 2, 1) := by decide +kernel
theorem d_Tr_latestOpenWith_14 : decode prog_12_method_9_code 14 = .ok (.ifCond .eq 34, 3) := by decide +kernel
theorem d_Tr_latestOpenWith_17 : decode prog_12_method_9_code 17 = .ok (.aload_n 0, 1) := by decide +kernel
theorem d_Tr_latestOpenWith_18 : decode prog_12_method_9_code 18 = .ok (.getfield 11, 3) := by decide +kernel
theorem d_Tr_latestOpenWith_21 : decode prog_12_method_9_code 21 = .ok (.iload_n 2, 1) := by decide +kernel
theorem d_Tr_latestOpenWith_22 : decode prog_12_method_9_code 22 = .ok (.aaload, 1) := by decide +kernel
theorem d_Tr_latestOpenWith_23 : decode prog_12_method_9_code 23 = .ok (.getfield 109, 3) := by decide +kernel
theorem d_Tr_latestOpenWith_26 : decode prog_12_method_9_code 26 = .ok (.iload_n 1, 1) := by decide +kernel
theorem d_Tr_latestOpenWith_27 : decode prog_12_method_9_code 27 = .ok (.if_icmp .ne 5, 3) := by decide +kernel
theorem d_Tr_latestOpenWith_30 : decode prog_12_method_9_code 30 = .ok (.iload_n 2, 1) := by decide +kernel
theorem d_Tr_latestOpenWith_31 : decode prog_12_method_9_code 31 = .ok (.ireturn, 1) := by decide +kernel
theorem d_Tr_latestOpenWith_32 : decode prog_12_method_9_code 32 = .ok (.aload_n 0, 1) := by decide +kernel
theorem d_Tr_latestOpenWith_33 : decode prog_12_method_9_code 33 = .ok (.getfield 11, 3) := by decide +kernel
theorem d_Tr_latestOpenWith_36 : decode prog_12_method_9_code 36 = .ok (.iload_n 2, 1) := by decide +kernel
theorem d_Tr_latestOpenWith_37 : decode prog_12_method_9_code 37 = .ok (.aaload, 1) := by decide +kernel
theorem d_Tr_latestOpenWith_38 : decode prog_12_method_9_code 38 = .ok (.getfield 106, 3) := by decide +kernel
theorem d_Tr_latestOpenWith_41 : decode prog_12_method_9_code 41 = .ok (.istore_n 2, 1) := by decide +kernel
theorem d_Tr_latestOpenWith_42 : decode prog_12_method_9_code 42 = .ok (.iinc 3 1, 3) := by decide +kernel
theorem d_Tr_latestOpenWith_45 : decode prog_12_method_9_code 45 = .ok (.goto (-38), 3) := by decide +kernel
theorem d_Tr_latestOpenWith_48 : decode prog_12_method_9_code 48 = .ok (.iconst 0, 1) := by decide +kernel
theorem d_Tr_latestOpenWith_49 : decode prog_12_method_9_code 49 = .ok (.ireturn, 1) := by decide +kernel
theorem d_Tr_closeUpTo_0 : decode prog_12_method_10_code 0 = .ok (.iconst 0, 1) := by decide +kernel
theorem d_Tr_closeUpTo_1 : decode prog_12_method_10_code 1 = .ok (.istore_n 3, 1) := by decide +kernel
theorem d_Tr_closeUpTo_2 : decode prog_12_method_10_code 2 = .ok (.iload_n 3, 1) := by decide +kernel
theorem d_Tr_closeUpTo_3 : decode prog_12_method_10_code 3 = .ok (.bipush 8, 2) := by decide +kernel
theorem d_Tr_closeUpTo_5 : decode prog_12_method_10_code 5 = .ok (.if_icmp .ge 48, 3) := by decide +kernel
theorem d_Tr_closeUpTo_8 : decode prog_12_method_10_code 8 = .ok (.aload_n 0, 1) := by decide +kernel
theorem d_Tr_closeUpTo_9 : decode prog_12_method_10_code 9 = .ok (.getfield 39, 3) := by decide +kernel
theorem d_Tr_closeUpTo_12 : decode prog_12_method_10_code 12 = .ok (.iload_n 1, 1) := by decide +kernel
theorem d_Tr_closeUpTo_13 : decode prog_12_method_10_code 13 = .ok (.if_icmp .eq 40, 3) := by decide +kernel
theorem d_Tr_closeUpTo_16 : decode prog_12_method_10_code 16 = .ok (.aload_n 0, 1) := by decide +kernel
theorem d_Tr_closeUpTo_17 : decode prog_12_method_10_code 17 = .ok (.getfield 11, 3) := by decide +kernel
theorem d_Tr_closeUpTo_20 : decode prog_12_method_10_code 20 = .ok (.aload_n 0, 1) := by decide +kernel
theorem d_Tr_closeUpTo_21 : decode prog_12_method_10_code 21 = .ok (.getfield 39, 3) := by decide +kernel
theorem d_Tr_closeUpTo_24 : decode prog_12_method_10_code 24 = .ok (.aaload, 1) := by decide +kernel
theorem d_Tr_closeUpTo_25 : decode prog_12_method_10_code 25 = .ok (.iconst 0, 1) := by decide +kernel
theorem d_Tr_closeUpTo_26 : decode prog_12_method_10_code 26 = .ok (.iload_n 2, 1) := by decide +kernel
theorem d_Tr_closeUpTo_27 : decode prog_12_method_10_code 27 = .ok (.iload_n 2, 1) := by decide +kernel
theorem d_Tr_closeUpTo_28 : decode prog_12_method_10_code 28 = .ok (.invokevirtual 58, 3) := by decide +kernel
theorem d_Tr_closeUpTo_31 : decode prog_12_method_10_code 31 = .ok (.aload_n 0, 1) := by decide +kernel
theorem d_Tr_closeUpTo_32 : decode prog_12_method_10_code 32 = .ok (.aload_n 0, 1) := by decide +kernel
theorem d_Tr_closeUpTo_33 : decode prog_12_method_10_code 33 = .ok (.getfield 11, 3) := by decide +kernel
theorem d_Tr_closeUpTo_36 : decode prog_12_method_10_code 36 = .ok (.aload_n 0, 1) := by decide +kernel
theorem d_Tr_closeUpTo_37 : decode prog_12_method_10_code 37 = .ok (.getfield 39, 3) := by decide +kernel
theorem d_Tr_closeUpTo_40 : decode prog_12_method_10_code 40 = .ok (.aaload, 1) := by decide +kernel
theorem d_Tr_closeUpTo_41 : decode prog_12_method_10_code 41 = .ok (.getfield 106, 3) := by decide +kernel
theorem d_Tr_closeUpTo_44 : decode prog_12_method_10_code 44 = .ok (.putfield 39, 3) := by decide +kernel
theorem d_Tr_closeUpTo_47 : decode prog_12_method_10_code 47 = .ok (.iinc 3 1, 3) := by decide +kernel
theorem d_Tr_closeUpTo_50 : decode prog_12_method_10_code 50 = .ok (.goto (-48), 3) := by decide +kernel
theorem d_Tr_closeUpTo_53 : decode prog_12_method_10_code 53 = .ok (.return_, 1) := by decide +kernel
theorem d_Tr_takeCharacter_0 : decode prog_12_method_4_code 0 = .ok (.aload_n 0, 1) := by decide +kernel
theorem d_Tr_takeCharacter_1 : decode prog_12_method_4_code 1 = .ok (.getfield 27, 3) := by decide +kernel
theorem d_Tr_takeCharacter_4 : decode prog_12_method_4_code 4 = .ok (.iload_n 1, 1) := by decide +kernel
theorem d_Tr_takeCharacter_5 : decode prog_12_method_4_code 5 = .ok (.invokevirtual 80, 3) := by decide +kernel
theorem d_Tr_takeCharacter_8 : decode prog_12_method_4_code 8 = .ok (.istore_n 3, 1) := by decide +kernel
theorem d_Tr_takeCharacter_9 : decode prog_12_method_4_code 9 = .ok (.aload_n 0, 1) := by decide +kernel
theorem d_Tr_takeCharacter_10 : decode prog_12_method_4_code 10 = .ok (.getfield 11, 3) := by decide +kernel
theorem d_Tr_takeCharacter_13 : decode prog_12_method_4_code 13 = .ok (.aload_n 0, 1) := by decide +kernel
theorem d_Tr_takeCharacter_14 : decode prog_12_method_4_code 14 = .ok (.getfield 39, 3) := by decide +kernel
theorem d_Tr_takeCharacter_17 : decode prog_12_method_4_code 17 = .ok (.aaload, 1) := by decide +kernel
theorem d_Tr_takeCharacter_18 : decode prog_12_method_4_code 18 = .ok (.iload_n 3, 1) := by decide +kernel
theorem d_Tr_takeCharacter_19 : decode prog_12_method_4_code 19 = .ok (.iload_n 1, 1) := by decide +kernel
theorem d_Tr_takeCharacter_20 : decode prog_12_method_4_code 20 = .ok (.invokevirtual 83, 3) := by decide +kernel
theorem d_Tr_takeCharacter_23 : decode prog_12_method_4_code 23 = .ok (.iload_n 3, 1) := by decide +kernel
theorem d_Tr_takeCharacter_24 : decode prog_12_method_4_code 24 = .ok (.bipush 60, 2) := by decide +kernel
theorem d_Tr_takeCharacter_26 : decode prog_12_method_4_code 26 = .ok (.if_icmp .ne 9, 3) := by decide +kernel
theorem d_Tr_takeCharacter_29 : decode prog_12_method_4_code 29 = .ok (.aload_n 2, 1) := by decide +kernel
theorem d_Tr_takeCharacter_30 : decode prog_12_method_4_code 30 = .ok (.iconst 1, 1) := by decide +kernel
theorem d_Tr_takeCharacter_31 : decode prog_12_method_4_code 31 = .ok (.iload_n 1, 1) := by decide +kernel
theorem d_Tr_takeCharacter_32 : decode prog_12_method_4_code 32 = .ok (.invokevirtual 85, 3) := by decide +kernel
theorem d_Tr_takeCharacter_35 : decode prog_12_method_4_code 35 = .ok (.return_, 1) := by decide +kernel
theorem d_Ms_of_0 : decode prog_10_method_2_code 0 = .ok (.aload_n 0, 1) := by decide +kernel
theorem d_Ms_of_1 : decode prog_10_method_2_code 1 = .ok (.getfield 11, 3) := by decide +kernel
theorem d_Ms_of_4 : decode prog_10_method_2_code 4 = .ok (.iload_n 1, 1) := by decide +kernel
theorem d_Ms_of_5 : decode prog_10_method_2_code 5 = .ok (.invokestatic 22, 3) := by decide +kernel
theorem d_Ms_of_8 : decode prog_10_method_2_code 8 = .ok (.aaload, 1) := by decide +kernel
theorem d_Ms_of_9 : decode prog_10_method_2_code 9 = .ok (.areturn, 1) := by decide +kernel
theorem d_Mo_forbidsCharacters_0 : decode prog_8_method_6_code 0 = .ok (.aload_n 0, 1) := by decide +kernel
theorem d_Mo_forbidsCharacters_1 : decode prog_8_method_6_code 1 = .ok (.getfield 18, 3) := by decide +kernel
theorem d_Mo_forbidsCharacters_4 : decode prog_8_method_6_code 4 = .ok (.ifCond .eq 14, 3) := by decide +kernel
theorem d_Mo_forbidsCharacters_7 : decode prog_8_method_6_code 7 = .ok (.aload_n 0, 1) := by decide +kernel
theorem d_Mo_forbidsCharacters_8 : decode prog_8_method_6_code 8 = .ok (.getfield 22, 3) := by decide +kernel
theorem d_Mo_forbidsCharacters_11 : decode prog_8_method_6_code 11 = .ok (.ifCond .ne 7, 3) := by decide +kernel
theorem d_Mo_forbidsCharacters_14 : decode prog_8_method_6_code 14 = .ok (.iconst 1, 1) := by decide +kernel
theorem d_Mo_forbidsCharacters_15 : decode prog_8_method_6_code 15 = .ok (.goto 4, 3) := by decide +kernel
theorem d_Mo_forbidsCharacters_18 : decode prog_8_method_6_code 18 = .ok (.iconst 0, 1) := by decide +kernel
theorem d_Mo_forbidsCharacters_19 : decode prog_8_method_6_code 19 = .ok (.ireturn, 1) := by decide +kernel
theorem d_Ms_allowChildren_0 : decode prog_10_method_4_code 0 = .ok (.aload_n 0, 1) := by decide +kernel
theorem d_Ms_allowChildren_1 : decode prog_10_method_4_code 1 = .ok (.aload_n 1, 1) := by decide +kernel
theorem d_Ms_allowChildren_2 : decode prog_10_method_4_code 2 = .ok (.getfield 29, 3) := by decide +kernel
theorem d_Ms_allowChildren_5 : decode prog_10_method_4_code 5 = .ok (.iload_n 2, 1) := by decide +kernel
theorem d_Ms_allowChildren_6 : decode prog_10_method_4_code 6 = .ok (.aaload, 1) := by decide +kernel
theorem d_Ms_allowChildren_7 : decode prog_10_method_4_code 7 = .ok (.getfield 35, 3) := by decide +kernel
theorem d_Ms_allowChildren_10 : decode prog_10_method_4_code 10 = .ok (.invokevirtual 41, 3) := by decide +kernel
theorem d_Ms_allowChildren_13 : decode prog_10_method_4_code 13 = .ok (.astore_n 3, 1) := by decide +kernel
theorem d_Ms_allowChildren_14 : decode prog_10_method_4_code 14 = .ok (.aload_n 3, 1) := by decide +kernel
theorem d_Ms_allowChildren_15 : decode prog_10_method_4_code 15 = .ok (.aload_n 1, 1) := by decide +kernel
theorem d_Ms_allowChildren_16 : decode prog_10_method_4_code 16 = .ok (.aload_n 3, 1) := by decide +kernel
theorem d_Ms_allowChildren_17 : decode prog_10_method_4_code 17 = .ok (.aload_n 3, 1) := by decide +kernel
theorem d_Ms_allowChildren_18 : decode prog_10_method_4_code 18 = .ok (.invokevirtual 45, 3) := by decide +kernel
theorem d_Ms_allowChildren_21 : decode prog_10_method_4_code 21 = .ok (.iload_n 2, 1) := by decide +kernel
theorem d_Ms_allowChildren_22 : decode prog_10_method_4_code 22 = .ok (.iconst 0, 1) := by decide +kernel
theorem d_Ms_allowChildren_23 : decode prog_10_method_4_code 23 = .ok (.bipush 100, 2) := by decide +kernel
theorem d_Ms_allowChildren_25 : decode prog_10_method_4_code 25 = .ok (.invokevirtual 49, 3) := by decide +kernel
theorem d_Ms_allowChildren_28 : decode prog_10_method_4_code 28 = .ok (.invokevirtual 53, 3) := by decide +kernel
theorem d_Ms_allowChildren_31 : decode prog_10_method_4_code 31 = .ok (.ireturn, 1) := by decide +kernel
theorem d_Tr_stepChildren_0 : decode prog_12_method_16_code 0 = .ok (.iload_n 2, 1) := by decide +kernel
theorem d_Tr_stepChildren_1 : decode prog_12_method_16_code 1 = .ok (.istore 6, 2) := by decide +kernel
theorem d_Tr_stepChildren_3 : decode prog_12_method_16_code 3 = .ok (.iload_n 3, 1) := by decide +kernel
theorem d_Tr_stepChildren_4 : decode prog_12_method_16_code 4 = .ok (.iconst 1, 1) := by decide +kernel
theorem d_Tr_stepChildren_5 : decode prog_12_method_16_code 5 = .ok (.iadd, 1) := by decide +kernel
theorem d_Tr_stepChildren_6 : decode prog_12_method_16_code 6 = .ok (.istore 7, 2) := by decide +kernel
theorem d_Tr_stepChildren_8 : decode prog_12_method_16_code 8 = .ok (.iload 7, 2) := by decide +kernel
theorem d_Tr_stepChildren_10 : decode prog_12_method_16_code 10 = .ok (.aload_n 0, 1) := by decide +kernel
theorem d_Tr_stepChildren_11 : decode prog_12_method_16_code 11 = .ok (.getfield 32, 3) := by decide +kernel
theorem d_Tr_stepChildren_14 : decode prog_12_method_16_code 14 = .ok (.if_icmp .gt 60, 3) := by decide +kernel
theorem d_Tr_stepChildren_17 : decode prog_12_method_16_code 17 = .ok (.aload_n 0, 1) := by decide +kernel
theorem d_Tr_stepChildren_18 : decode prog_12_method_16_code 18 = .ok (.getfield 11, 3) := by decide +kernel
theorem d_Tr_stepChildren_21 : decode prog_12_method_16_code 21 = .ok (.iload 7, 2) := by decide +kernel
theorem d_Tr_stepChildren_23 : decode prog_12_method_16_code 23 = .ok (.aaload, 1) := by decide +kernel
theorem d_Tr_stepChildren_24 : decode prog_12_method_16_code 24 = .ok (.astore 8, 2) := by decide +kernel
theorem d_Tr_stepChildren_26 : decode prog_12_method_16_code 26 = .ok (.aload 8, 2) := by decide +kernel
theorem d_Tr_stepChildren_28 : decode prog_12_method_16_code 28 = .ok (.getfield 106, 3) := by decide +kernel
theorem d_Tr_stepChildren_31 : decode prog_12_method_16_code 31 = .ok (.iload_n 3, 1) := by decide +kernel
theorem d_Tr_stepChildren_32 : decode prog_12_method_16_code 32 = .ok (.if_icmp .ne 36, 3) := by decide +kernel
theorem d_Tr_stepChildren_35 : decode prog_12_method_16_code 35 = .ok (.iload 4, 2) := by decide +kernel
theorem d_Tr_stepChildren_37 : decode prog_12_method_16_code 37 = .ok (.aload 8, 2) := by decide +kernel
theorem d_Tr_stepChildren_39 : decode prog_12_method_16_code 39 = .ok (.getfield 119, 3) := by decide +kernel
theorem d_Tr_stepChildren_42 : decode prog_12_method_16_code 42 = .ok (.if_icmp .gt 26, 3) := by decide +kernel
theorem d_Tr_stepChildren_45 : decode prog_12_method_16_code 45 = .ok (.aload 8, 2) := by decide +kernel
theorem d_Tr_stepChildren_47 : decode prog_12_method_16_code 47 = .ok (.getfield 119, 3) := by decide +kernel
theorem d_Tr_stepChildren_50 : decode prog_12_method_16_code 50 = .ok (.iload 5, 2) := by decide +kernel
theorem d_Tr_stepChildren_52 : decode prog_12_method_16_code 52 = .ok (.if_icmp .ge 16, 3) := by decide +kernel
theorem d_Tr_stepChildren_55 : decode prog_12_method_16_code 55 = .ok (.aload_n 1, 1) := by decide +kernel
theorem d_Tr_stepChildren_56 : decode prog_12_method_16_code 56 = .ok (.iload 6, 2) := by decide +kernel
theorem d_Tr_stepChildren_58 : decode prog_12_method_16_code 58 = .ok (.aload 8, 2) := by decide +kernel
theorem d_Tr_stepChildren_60 : decode prog_12_method_16_code 60 = .ok (.getfield 109, 3) := by decide +kernel
theorem d_Tr_stepChildren_63 : decode prog_12_method_16_code 63 = .ok (.invokevirtual 122, 3) := by decide +kernel
theorem d_Tr_stepChildren_66 : decode prog_12_method_16_code 66 = .ok (.istore 6, 2) := by decide +kernel
theorem d_Tr_stepChildren_68 : decode prog_12_method_16_code 68 = .ok (.iinc 7 1, 3) := by decide +kernel
theorem d_Tr_stepChildren_71 : decode prog_12_method_16_code 71 = .ok (.goto (-63), 3) := by decide +kernel
theorem d_Tr_stepChildren_74 : decode prog_12_method_16_code 74 = .ok (.iload 6, 2) := by decide +kernel
theorem d_Tr_stepChildren_76 : decode prog_12_method_16_code 76 = .ok (.ireturn, 1) := by decide +kernel
theorem d_Mo_step_0 : decode prog_8_method_9_code 0 = .ok (.iload_n 2, 1) := by decide +kernel
theorem d_Mo_step_1 : decode prog_8_method_9_code 1 = .ok (.invokestatic 32, 3) := by decide +kernel
theorem d_Mo_step_4 : decode prog_8_method_9_code 4 = .ok (.ifCond .eq 21, 3) := by decide +kernel
theorem d_Mo_step_7 : decode prog_8_method_9_code 7 = .ok (.aload_n 0, 1) := by decide +kernel
theorem d_Mo_step_8 : decode prog_8_method_9_code 8 = .ok (.iload_n 1, 1) := by decide +kernel
theorem d_Mo_step_9 : decode prog_8_method_9_code 9 = .ok (.invokevirtual 40, 3) := by decide +kernel
theorem d_Mo_step_12 : decode prog_8_method_9_code 12 = .ok (.aload_n 0, 1) := by decide +kernel
theorem d_Mo_step_13 : decode prog_8_method_9_code 13 = .ok (.getfield 15, 3) := by decide +kernel
theorem d_Mo_step_16 : decode prog_8_method_9_code 16 = .ok (.iload_n 2, 1) := by decide +kernel
theorem d_Mo_step_17 : decode prog_8_method_9_code 17 = .ok (.bipush 97, 2) := by decide +kernel
theorem d_Mo_step_19 : decode prog_8_method_9_code 19 = .ok (.isub, 1) := by decide +kernel
theorem d_Mo_step_20 : decode prog_8_method_9_code 20 = .ok (.iaload, 1) := by decide +kernel
theorem d_Mo_step_21 : decode prog_8_method_9_code 21 = .ok (.iand, 1) := by decide +kernel
theorem d_Mo_step_22 : decode prog_8_method_9_code 22 = .ok (.goto 4, 3) := by decide +kernel
theorem d_Mo_step_25 : decode prog_8_method_9_code 25 = .ok (.iconst 0, 1) := by decide +kernel
theorem d_Mo_step_26 : decode prog_8_method_9_code 26 = .ok (.ireturn, 1) := by decide +kernel
theorem d_Tr_isWithinTag_0 : decode prog_12_method_12_code 0 = .ok (.iconst 0, 1) := by decide +kernel
theorem d_Tr_isWithinTag_1 : decode prog_12_method_12_code 1 = .ok (.istore_n 2, 1) := by decide +kernel
theorem d_Tr_isWithinTag_2 : decode prog_12_method_12_code 2 = .ok (.iload_n 2, 1) := by decide +kernel
theorem d_Tr_isWithinTag_3 : decode prog_12_method_12_code 3 = .ok (.aload_n 0, 1) := by decide +kernel
theorem d_Tr_isWithinTag_4 : decode prog_12_method_12_code 4 = .ok (.getfield 36, 3) := by decide +kernel
theorem d_Tr_isWithinTag_7 : decode prog_12_method_12_code 7 = .ok (.if_icmp .ge 31, 3) := by decide +kernel
theorem d_Tr_isWithinTag_10 : decode prog_12_method_12_code 10 = .ok (.aload_n 0, 1) := by decide +kernel
theorem d_Tr_isWithinTag_11 : decode prog_12_method_12_code 11 = .ok (.getfield 17, 3) := by decide +kernel
theorem d_Tr_isWithinTag_14 : decode prog_12_method_12_code 14 = .ok (.iload_n 2, 1) := by decide +kernel
theorem d_Tr_isWithinTag_15 : decode prog_12_method_12_code 15 = .ok (.iaload, 1) := by decide +kernel
theorem d_Tr_isWithinTag_16 : decode prog_12_method_12_code 16 = .ok (.iload_n 1, 1) := by decide +kernel
theorem d_Tr_isWithinTag_17 : decode prog_12_method_12_code 17 = .ok (.if_icmp .ge 15, 3) := by decide +kernel
theorem d_Tr_isWithinTag_20 : decode prog_12_method_12_code 20 = .ok (.iload_n 1, 1) := by decide +kernel
theorem d_Tr_isWithinTag_21 : decode prog_12_method_12_code 21 = .ok (.aload_n 0, 1) := by decide +kernel
theorem d_Tr_isWithinTag_22 : decode prog_12_method_12_code 22 = .ok (.getfield 21, 3) := by decide +kernel
theorem d_Tr_isWithinTag_25 : decode prog_12_method_12_code 25 = .ok (.iload_n 2, 1) := by decide +kernel
theorem d_Tr_isWithinTag_26 : decode prog_12_method_12_code 26 = .ok (.iaload, 1) := by decide +kernel
theorem d_Tr_isWithinTag_27 : decode prog_12_method_12_code 27 = .ok (.if_icmp .ge 5, 3) := by decide +kernel
theorem d_Tr_isWithinTag_30 : decode prog_12_method_12_code 30 = .ok (.iconst 1, 1) := by decide +kernel
theorem d_Tr_isWithinTag_31 : decode prog_12_method_12_code 31 = .ok (.ireturn, 1) := by decide +kernel
theorem d_Tr_isWithinTag_32 : decode prog_12_method_12_code 32 = .ok (.iinc 2 1, 3) := by decide +kernel
theorem d_Tr_isWithinTag_35 : decode prog_12_method_12_code 35 = .ok (.goto (-33), 3) := by decide +kernel
theorem d_Tr_isWithinTag_38 : decode prog_12_method_12_code 38 = .ok (.iconst 0, 1) := by decide +kernel
theorem d_Tr_isWithinTag_39 : decode prog_12_method_12_code 39 = .ok (.ireturn, 1) := by decide +kernel
theorem d_Tr_insideOf_0 : decode prog_12_method_15_code 0 = .ok (.aload_n 0, 1) := by decide +kernel
theorem d_Tr_insideOf_1 : decode prog_12_method_15_code 1 = .ok (.getfield 32, 3) := by decide +kernel
theorem d_Tr_insideOf_4 : decode prog_12_method_15_code 4 = .ok (.istore_n 2, 1) := by decide +kernel
theorem d_Tr_insideOf_5 : decode prog_12_method_15_code 5 = .ok (.iload_n 2, 1) := by decide +kernel
theorem d_Tr_insideOf_6 : decode prog_12_method_15_code 6 = .ok (.ifCond .le 24, 3) := by decide +kernel
theorem d_Tr_insideOf_9 : decode prog_12_method_15_code 9 = .ok (.aload_n 0, 1) := by decide +kernel
theorem d_Tr_insideOf_10 : decode prog_12_method_15_code 10 = .ok (.getfield 11, 3) := by decide +kernel
theorem d_Tr_insideOf_13 : decode prog_12_method_15_code 13 = .ok (.iload_n 2, 1) := by decide +kernel
theorem d_Tr_insideOf_14 : decode prog_12_method_15_code 14 = .ok (.aaload, 1) := by decide +kernel
theorem d_Tr_insideOf_15 : decode prog_12_method_15_code 15 = .ok (.iload_n 1, 1) := by decide +kernel
theorem d_Tr_insideOf_16 : decode prog_12_method_15_code 16 = .ok (.invokevirtual 115, 3) := by decide +kernel
theorem d_Tr_insideOf_19 : decode prog_12_method_15_code 19 = .ok (.ifCond .eq 5, 3) := by decide +kernel
theorem d_Tr_insideOf_22 : decode prog_12_method_15_code 22 = .ok (.iload_n 2, 1) := by decide +kernel
theorem d_Tr_insideOf_23 : decode prog_12_method_15_code 23 = .ok (.ireturn, 1) := by decide +kernel
theorem d_Tr_insideOf_24 : decode prog_12_method_15_code 24 = .ok (.iinc 2 (-1), 3) := by decide +kernel
theorem d_Tr_insideOf_27 : decode prog_12_method_15_code 27 = .ok (.goto (-22), 3) := by decide +kernel
theorem d_Tr_insideOf_30 : decode prog_12_method_15_code 30 = .ok (.iconst 0, 1) := by decide +kernel
theorem d_Tr_insideOf_31 : decode prog_12_method_15_code 31 = .ok (.ireturn, 1) := by decide +kernel
theorem d_Ms_offer_0 : decode prog_10_method_6_code 0 = .ok (.aload_n 0, 1) := by decide +kernel
theorem d_Ms_offer_1 : decode prog_10_method_6_code 1 = .ok (.aload_n 1, 1) := by decide +kernel
theorem d_Ms_offer_2 : decode prog_10_method_6_code 2 = .ok (.getfield 29, 3) := by decide +kernel
theorem d_Ms_offer_5 : decode prog_10_method_6_code 5 = .ok (.iload_n 2, 1) := by decide +kernel
theorem d_Ms_offer_6 : decode prog_10_method_6_code 6 = .ok (.aaload, 1) := by decide +kernel
theorem d_Ms_offer_7 : decode prog_10_method_6_code 7 = .ok (.getfield 35, 3) := by decide +kernel
theorem d_Ms_offer_10 : decode prog_10_method_6_code 10 = .ok (.invokevirtual 41, 3) := by decide +kernel
theorem d_Ms_offer_13 : decode prog_10_method_6_code 13 = .ok (.astore 4, 2) := by decide +kernel
theorem d_Ms_offer_15 : decode prog_10_method_6_code 15 = .ok (.aload_n 1, 1) := by decide +kernel
theorem d_Ms_offer_16 : decode prog_10_method_6_code 16 = .ok (.aload 4, 2) := by decide +kernel
theorem d_Ms_offer_18 : decode prog_10_method_6_code 18 = .ok (.aload 4, 2) := by decide +kernel
theorem d_Ms_offer_20 : decode prog_10_method_6_code 20 = .ok (.invokevirtual 45, 3) := by decide +kernel
theorem d_Ms_offer_23 : decode prog_10_method_6_code 23 = .ok (.iload_n 2, 1) := by decide +kernel
theorem d_Ms_offer_24 : decode prog_10_method_6_code 24 = .ok (.iconst 0, 1) := by decide +kernel
theorem d_Ms_offer_25 : decode prog_10_method_6_code 25 = .ok (.iload_n 3, 1) := by decide +kernel
theorem d_Ms_offer_26 : decode prog_10_method_6_code 26 = .ok (.invokevirtual 49, 3) := by decide +kernel
theorem d_Ms_offer_29 : decode prog_10_method_6_code 29 = .ok (.istore 5, 2) := by decide +kernel
theorem d_Ms_offer_31 : decode prog_10_method_6_code 31 = .ok (.iconst 0, 1) := by decide +kernel
theorem d_Ms_offer_32 : decode prog_10_method_6_code 32 = .ok (.istore 6, 2) := by decide +kernel
theorem d_Ms_offer_34 : decode prog_10_method_6_code 34 = .ok (.iconst 0, 1) := by decide +kernel
theorem d_Ms_offer_35 : decode prog_10_method_6_code 35 = .ok (.istore 7, 2) := by decide +kernel
theorem d_Ms_offer_37 : decode prog_10_method_6_code 37 = .ok (.iload 7, 2) := by decide +kernel
theorem d_Ms_offer_39 : decode prog_10_method_6_code 39 = .ok (.bipush 8, 2) := by decide +kernel
theorem d_Ms_offer_41 : decode prog_10_method_6_code 41 = .ok (.if_icmp .ge 81, 3) := by decide +kernel
theorem d_Ms_offer_44 : decode prog_10_method_6_code 44 = .ok (.aload_n 0, 1) := by decide +kernel
theorem d_Ms_offer_45 : decode prog_10_method_6_code 45 = .ok (.getfield 67, 3) := by decide +kernel
theorem d_Ms_offer_48 : decode prog_10_method_6_code 48 = .ok (.iload 7, 2) := by decide +kernel
theorem d_Ms_offer_50 : decode prog_10_method_6_code 50 = .ok (.ishr, 1) := by decide +kernel
theorem d_Ms_offer_51 : decode prog_10_method_6_code 51 = .ok (.iconst 1, 1) := by decide +kernel
theorem d_Ms_offer_52 : decode prog_10_method_6_code 52 = .ok (.iand, 1) := by decide +kernel
theorem d_Ms_offer_53 : decode prog_10_method_6_code 53 = .ok (.ifCond .eq 63, 3) := by decide +kernel
theorem d_Ms_offer_56 : decode prog_10_method_6_code 56 = .ok (.aload 4, 2) := by decide +kernel
theorem d_Ms_offer_58 : decode prog_10_method_6_code 58 = .ok (.aload 4, 2) := by decide +kernel
theorem d_Ms_offer_60 : decode prog_10_method_6_code 60 = .ok (.iload 5, 2) := by decide +kernel
theorem d_Ms_offer_62 : decode prog_10_method_6_code 62 = .ok (.bipush 97, 2) := by decide +kernel
theorem d_Ms_offer_64 : decode prog_10_method_6_code 64 = .ok (.iload 7, 2) := by decide +kernel
theorem d_Ms_offer_66 : decode prog_10_method_6_code 66 = .ok (.iadd, 1) := by decide +kernel
theorem d_Ms_offer_67 : decode prog_10_method_6_code 67 = .ok (.invokevirtual 70, 3) := by decide +kernel
theorem d_Ms_offer_70 : decode prog_10_method_6_code 70 = .ok (.aload_n 0, 1) := by decide +kernel
theorem d_Ms_offer_71 : decode prog_10_method_6_code 71 = .ok (.getfield 67, 3) := by decide +kernel
theorem d_Ms_offer_74 : decode prog_10_method_6_code 74 = .ok (.invokevirtual 74, 3) := by decide +kernel
theorem d_Ms_offer_77 : decode prog_10_method_6_code 77 = .ok (.istore 8, 2) := by decide +kernel
theorem d_Ms_offer_79 : decode prog_10_method_6_code 79 = .ok (.aload_n 1, 1) := by decide +kernel
theorem d_Ms_offer_80 : decode prog_10_method_6_code 80 = .ok (.aload 4, 2) := by decide +kernel
theorem d_Ms_offer_82 : decode prog_10_method_6_code 82 = .ok (.iload 8, 2) := by decide +kernel
theorem d_Ms_offer_84 : decode prog_10_method_6_code 84 = .ok (.iload_n 2, 1) := by decide +kernel
theorem d_Ms_offer_85 : decode prog_10_method_6_code 85 = .ok (.iload_n 3, 1) := by decide +kernel
theorem d_Ms_offer_86 : decode prog_10_method_6_code 86 = .ok (.bipush 100, 2) := by decide +kernel
theorem d_Ms_offer_88 : decode prog_10_method_6_code 88 = .ok (.invokevirtual 49, 3) := by decide +kernel
theorem d_Ms_offer_91 : decode prog_10_method_6_code 91 = .ok (.istore 8, 2) := by decide +kernel
theorem d_Ms_offer_93 : decode prog_10_method_6_code 93 = .ok (.iload 6, 2) := by decide +kernel
theorem d_Ms_offer_95 : decode prog_10_method_6_code 95 = .ok (.aload 4, 2) := by decide +kernel
theorem d_Ms_offer_97 : decode prog_10_method_6_code 97 = .ok (.iload 8, 2) := by decide +kernel
theorem d_Ms_offer_99 : decode prog_10_method_6_code 99 = .ok (.invokevirtual 53, 3) := by decide +kernel
theorem d_Ms_offer_102 : decode prog_10_method_6_code 102 = .ok (.ifCond .eq 10, 3) := by decide +kernel
theorem d_Ms_offer_105 : decode prog_10_method_6_code 105 = .ok (.iconst 1, 1) := by decide +kernel
theorem d_Ms_offer_106 : decode prog_10_method_6_code 106 = .ok (.iload 7, 2) := by decide +kernel
theorem d_Ms_offer_108 : decode prog_10_method_6_code 108 = .ok (.ishl, 1) := by decide +kernel
theorem d_Ms_offer_109 : decode prog_10_method_6_code 109 = .ok (.goto 4, 3) := by decide +kernel
theorem d_Ms_offer_112 : decode prog_10_method_6_code 112 = .ok (.iconst 0, 1) := by decide +kernel
theorem d_Ms_offer_113 : decode prog_10_method_6_code 113 = .ok (.ior, 1) := by decide +kernel
theorem d_Ms_offer_114 : decode prog_10_method_6_code 114 = .ok (.istore 6, 2) := by decide +kernel
theorem d_Ms_offer_116 : decode prog_10_method_6_code 116 = .ok (.iinc 7 1, 3) := by decide +kernel
theorem d_Ms_offer_119 : decode prog_10_method_6_code 119 = .ok (.goto (-82), 3) := by decide +kernel
theorem d_Ms_offer_122 : decode prog_10_method_6_code 122 = .ok (.iload 6, 2) := by decide +kernel
theorem d_Ms_offer_124 : decode prog_10_method_6_code 124 = .ok (.ireturn, 1) := by decide +kernel
theorem d_Tr_ownerOfTagAt_0 : decode prog_12_method_13_code 0 = .ok (.iconst 0, 1) := by decide +kernel
theorem d_Tr_ownerOfTagAt_1 : decode prog_12_method_13_code 1 = .ok (.istore_n 2, 1) := by decide +kernel
theorem d_Tr_ownerOfTagAt_2 : decode prog_12_method_13_code 2 = .ok (.iload_n 2, 1) := by decide +kernel
theorem d_Tr_ownerOfTagAt_3 : decode prog_12_method_13_code 3 = .ok (.aload_n 0, 1) := by decide +kernel
theorem d_Tr_ownerOfTagAt_4 : decode prog_12_method_13_code 4 = .ok (.getfield 36, 3) := by decide +kernel
theorem d_Tr_ownerOfTagAt_7 : decode prog_12_method_13_code 7 = .ok (.if_icmp .ge 36, 3) := by decide +kernel
theorem d_Tr_ownerOfTagAt_10 : decode prog_12_method_13_code 10 = .ok (.aload_n 0, 1) := by decide +kernel
theorem d_Tr_ownerOfTagAt_11 : decode prog_12_method_13_code 11 = .ok (.getfield 17, 3) := by decide +kernel
theorem d_Tr_ownerOfTagAt_14 : decode prog_12_method_13_code 14 = .ok (.iload_n 2, 1) := by decide +kernel
theorem d_Tr_ownerOfTagAt_15 : decode prog_12_method_13_code 15 = .ok (.iaload, 1) := by decide +kernel
theorem d_Tr_ownerOfTagAt_16 : decode prog_12_method_13_code 16 = .ok (.iload_n 1, 1) := by decide +kernel
theorem d_Tr_ownerOfTagAt_17 : decode prog_12_method_13_code 17 = .ok (.if_icmp .gt 20, 3) := by decide +kernel
theorem d_Tr_ownerOfTagAt_20 : decode prog_12_method_13_code 20 = .ok (.iload_n 1, 1) := by decide +kernel
theorem d_Tr_ownerOfTagAt_21 : decode prog_12_method_13_code 21 = .ok (.aload_n 0, 1) := by decide +kernel
theorem d_Tr_ownerOfTagAt_22 : decode prog_12_method_13_code 22 = .ok (.getfield 21, 3) := by decide +kernel
theorem d_Tr_ownerOfTagAt_25 : decode prog_12_method_13_code 25 = .ok (.iload_n 2, 1) := by decide +kernel
theorem d_Tr_ownerOfTagAt_26 : decode prog_12_method_13_code 26 = .ok (.iaload, 1) := by decide +kernel
theorem d_Tr_ownerOfTagAt_27 : decode prog_12_method_13_code 27 = .ok (.if_icmp .ge 10, 3) := by decide +kernel
theorem d_Tr_ownerOfTagAt_30 : decode prog_12_method_13_code 30 = .ok (.aload_n 0, 1) := by decide +kernel
theorem d_Tr_ownerOfTagAt_31 : decode prog_12_method_13_code 31 = .ok (.getfield 24, 3) := by decide +kernel
theorem d_Tr_ownerOfTagAt_34 : decode prog_12_method_13_code 34 = .ok (.iload_n 2, 1) := by decide +kernel
theorem d_Tr_ownerOfTagAt_35 : decode prog_12_method_13_code 35 = .ok (.iaload, 1) := by decide +kernel
theorem d_Tr_ownerOfTagAt_36 : decode prog_12_method_13_code 36 = .ok (.ireturn, 1) := by decide +kernel
theorem d_Tr_ownerOfTagAt_37 : decode prog_12_method_13_code 37 = .ok (.iinc 2 1, 3) := by decide +kernel
theorem d_Tr_ownerOfTagAt_40 : decode prog_12_method_13_code 40 = .ok (.goto (-38), 3) := by decide +kernel
theorem d_Tr_ownerOfTagAt_43 : decode prog_12_method_13_code 43 = .ok (.iconst (-1), 1) := by decide +kernel
theorem d_Tr_ownerOfTagAt_44 : decode prog_12_method_13_code 44 = .ok (.ireturn, 1) := by decide +kernel
theorem d_Tr_renameTags_0 : decode prog_12_method_14_code 0 = .ok (.iconst 0, 1) := by decide +kernel
theorem d_Tr_renameTags_1 : decode prog_12_method_14_code 1 = .ok (.istore_n 3, 1) := by decide +kernel
theorem d_Tr_renameTags_2 : decode prog_12_method_14_code 2 = .ok (.iconst 0, 1) := by decide +kernel
theorem d_Tr_renameTags_3 : decode prog_12_method_14_code 3 = .ok (.istore 4, 2) := by decide +kernel
theorem d_Tr_renameTags_5 : decode prog_12_method_14_code 5 = .ok (.iload 4, 2) := by decide +kernel
theorem d_Tr_renameTags_7 : decode prog_12_method_14_code 7 = .ok (.aload_n 0, 1) := by decide +kernel
theorem d_Tr_renameTags_8 : decode prog_12_method_14_code 8 = .ok (.getfield 36, 3) := by decide +kernel
theorem d_Tr_renameTags_11 : decode prog_12_method_14_code 11 = .ok (.if_icmp .ge 65, 3) := by decide +kernel
theorem d_Tr_renameTags_14 : decode prog_12_method_14_code 14 = .ok (.aload_n 0, 1) := by decide +kernel
theorem d_Tr_renameTags_15 : decode prog_12_method_14_code 15 = .ok (.getfield 24, 3) := by decide +kernel
theorem d_Tr_renameTags_18 : decode prog_12_method_14_code 18 = .ok (.iload 4, 2) := by decide +kernel
theorem d_Tr_renameTags_20 : decode prog_12_method_14_code 20 = .ok (.iaload, 1) := by decide +kernel
theorem d_Tr_renameTags_21 : decode prog_12_method_14_code 21 = .ok (.iload_n 1, 1) := by decide +kernel
theorem d_Tr_renameTags_22 : decode prog_12_method_14_code 22 = .ok (.if_icmp .ne 48, 3) := by decide +kernel
theorem d_Tr_renameTags_25 : decode prog_12_method_14_code 25 = .ok (.aload_n 0, 1) := by decide +kernel
theorem d_Tr_renameTags_26 : decode prog_12_method_14_code 26 = .ok (.getfield 17, 3) := by decide +kernel
theorem d_Tr_renameTags_29 : decode prog_12_method_14_code 29 = .ok (.iload 4, 2) := by decide +kernel
theorem d_Tr_renameTags_31 : decode prog_12_method_14_code 31 = .ok (.iaload, 1) := by decide +kernel
theorem d_Tr_renameTags_32 : decode prog_12_method_14_code 32 = .ok (.iconst 1, 1) := by decide +kernel
theorem d_Tr_renameTags_33 : decode prog_12_method_14_code 33 = .ok (.iadd, 1) := by decide +kernel
theorem d_Tr_renameTags_34 : decode prog_12_method_14_code 34 = .ok (.istore 5, 2) := by decide +kernel
theorem d_Tr_renameTags_36 : decode prog_12_method_14_code 36 = .ok (.aload_n 0, 1) := by decide +kernel
theorem d_Tr_renameTags_37 : decode prog_12_method_14_code 37 = .ok (.getfield 27, 3) := by decide +kernel
theorem d_Tr_renameTags_40 : decode prog_12_method_14_code 40 = .ok (.aload_n 0, 1) := by decide +kernel
theorem d_Tr_renameTags_41 : decode prog_12_method_14_code 41 = .ok (.getfield 27, 3) := by decide +kernel
theorem d_Tr_renameTags_44 : decode prog_12_method_14_code 44 = .ok (.iload 5, 2) := by decide +kernel
theorem d_Tr_renameTags_46 : decode prog_12_method_14_code 46 = .ok (.invokevirtual 80, 3) := by decide +kernel
theorem d_Tr_renameTags_49 : decode prog_12_method_14_code 49 = .ok (.bipush 47, 2) := by decide +kernel
theorem d_Tr_renameTags_51 : decode prog_12_method_14_code 51 = .ok (.if_icmp .ne 10, 3) := by decide +kernel
theorem d_Tr_renameTags_54 : decode prog_12_method_14_code 54 = .ok (.iload 5, 2) := by decide +kernel
theorem d_Tr_renameTags_56 : decode prog_12_method_14_code 56 = .ok (.iconst 1, 1) := by decide +kernel
theorem d_Tr_renameTags_57 : decode prog_12_method_14_code 57 = .ok (.iadd, 1) := by decide +kernel
theorem d_Tr_renameTags_58 : decode prog_12_method_14_code 58 = .ok (.goto 5, 3) := by decide +kernel
theorem d_Tr_renameTags_61 : decode prog_12_method_14_code 61 = .ok (.iload 5, 2) := by decide +kernel
theorem d_Tr_renameTags_63 : decode prog_12_method_14_code 63 = .ok (.iload_n 2, 1) := by decide +kernel
theorem d_Tr_renameTags_64 : decode prog_12_method_14_code 64 = .ok (.invokevirtual 112, 3) := by decide +kernel
theorem d_Tr_renameTags_67 : decode prog_12_method_14_code 67 = .ok (.iinc 3 1, 3) := by decide +kernel
theorem d_Tr_renameTags_70 : decode prog_12_method_14_code 70 = .ok (.iinc 4 1, 3) := by decide +kernel
theorem d_Tr_renameTags_73 : decode prog_12_method_14_code 73 = .ok (.goto (-68), 3) := by decide +kernel
theorem d_Tr_renameTags_76 : decode prog_12_method_14_code 76 = .ok (.iload_n 3, 1) := by decide +kernel
theorem d_Tr_renameTags_77 : decode prog_12_method_14_code 77 = .ok (.ireturn, 1) := by decide +kernel
theorem d_Tx_replace_0 : decode prog_11_method_5_code 0 = .ok (.iload_n 1, 1) := by decide +kernel
theorem d_Tx_replace_1 : decode prog_11_method_5_code 1 = .ok (.ifCond .lt 19, 3) := by decide +kernel
theorem d_Tx_replace_4 : decode prog_11_method_5_code 4 = .ok (.iload_n 1, 1) := by decide +kernel
theorem d_Tx_replace_5 : decode prog_11_method_5_code 5 = .ok (.aload_n 0, 1) := by decide +kernel
theorem d_Tx_replace_6 : decode prog_11_method_5_code 6 = .ok (.getfield 15, 3) := by decide +kernel
theorem d_Tx_replace_9 : decode prog_11_method_5_code 9 = .ok (.if_icmp .ge 11, 3) := by decide +kernel
theorem d_Tx_replace_12 : decode prog_11_method_5_code 12 = .ok (.aload_n 0, 1) := by decide +kernel
theorem d_Tx_replace_13 : decode prog_11_method_5_code 13 = .ok (.getfield 9, 3) := by decide +kernel
theorem d_Tx_replace_16 : decode prog_11_method_5_code 16 = .ok (.iload_n 1, 1) := by decide +kernel
theorem d_Tx_replace_17 : decode prog_11_method_5_code 17 = .ok (.iload_n 2, 1) := by decide +kernel
theorem d_Tx_replace_18 : decode prog_11_method_5_code 18 = .ok (.i2c, 1) := by decide +kernel
theorem d_Tx_replace_19 : decode prog_11_method_5_code 19 = .ok (.castore, 1) := by decide +kernel
theorem d_Tx_replace_20 : decode prog_11_method_5_code 20 = .ok (.return_, 1) := by decide +kernel
theorem d_Ms_makeLoose_0 : decode prog_10_method_5_code 0 = .ok (.aload_n 0, 1) := by decide +kernel
theorem d_Ms_makeLoose_1 : decode prog_10_method_5_code 1 = .ok (.aload_n 1, 1) := by decide +kernel
theorem d_Ms_makeLoose_2 : decode prog_10_method_5_code 2 = .ok (.getfield 35, 3) := by decide +kernel
theorem d_Ms_makeLoose_5 : decode prog_10_method_5_code 5 = .ok (.invokevirtual 41, 3) := by decide +kernel
theorem d_Ms_makeLoose_8 : decode prog_10_method_5_code 8 = .ok (.invokevirtual 57, 3) := by decide +kernel
theorem d_Ms_makeLoose_11 : decode prog_10_method_5_code 11 = .ok (.ifCond .eq 22, 3) := by decide +kernel
theorem d_Ms_makeLoose_14 : decode prog_10_method_5_code 14 = .ok (.aload_n 1, 1) := by decide +kernel
theorem d_Ms_makeLoose_15 : decode prog_10_method_5_code 15 = .ok (.getfield 61, 3) := by decide +kernel
theorem d_Ms_makeLoose_18 : decode prog_10_method_5_code 18 = .ok (.ifCond .le 15, 3) := by decide +kernel
theorem d_Ms_makeLoose_21 : decode prog_10_method_5_code 21 = .ok (.aload_n 1, 1) := by decide +kernel
theorem d_Ms_makeLoose_22 : decode prog_10_method_5_code 22 = .ok (.getfield 64, 3) := by decide +kernel
theorem d_Ms_makeLoose_25 : decode prog_10_method_5_code 25 = .ok (.iconst (-1), 1) := by decide +kernel
theorem d_Ms_makeLoose_26 : decode prog_10_method_5_code 26 = .ok (.if_icmp .ne 7, 3) := by decide +kernel
theorem d_Ms_makeLoose_29 : decode prog_10_method_5_code 29 = .ok (.iconst 1, 1) := by decide +kernel
theorem d_Ms_makeLoose_30 : decode prog_10_method_5_code 30 = .ok (.goto 4, 3) := by decide +kernel
theorem d_Ms_makeLoose_33 : decode prog_10_method_5_code 33 = .ok (.iconst 0, 1) := by decide +kernel
theorem d_Ms_makeLoose_34 : decode prog_10_method_5_code 34 = .ok (.ireturn, 1) := by decide +kernel
