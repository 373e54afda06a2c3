theorem d_TG_init_0 : decode prog_1_method_1_code 0 = .ok (.aload_n 0, 1) := by decide +kernel
theorem d_TG_init_1 : decode prog_1_method_1_code 1 = .ok (.invokespecial 3, 3) := by decide +kernel
theorem d_TG_init_4 : decode prog_1_method_1_code 4 = .ok (.aload_n 0, 1) := by decide +kernel
theorem d_TG_init_5 : decode prog_1_method_1_code 5 = .ok (.new 9, 3) := by decide +kernel
theorem d_TG_init_8 : decode prog_1_method_1_code 8 = .ok (.dup, 1) := by decide +kernel
theorem d_TG_init_9 : decode prog_1_method_1_code 9 = .ok (.invokespecial 11, 3) := by decide +kernel
theorem d_TG_init_12 : decode prog_1_method_1_code 12 = .ok (.putfield 12, 3) := by decide +kernel
theorem d_TG_init_15 : decode prog_1_method_1_code 15 = .ok (.aload_n 0, 1) := by decide +kernel
theorem d_TG_init_16 : decode prog_1_method_1_code 16 = .ok (.new 16, 3) := by decide +kernel
theorem d_TG_init_19 : decode prog_1_method_1_code 19 = .ok (.dup, 1) := by decide +kernel
theorem d_TG_init_20 : decode prog_1_method_1_code 20 = .ok (.aload_n 0, 1) := by decide +kernel
theorem d_TG_init_21 : decode prog_1_method_1_code 21 = .ok (.getfield 12, 3) := by decide +kernel
theorem d_TG_init_24 : decode prog_1_method_1_code 24 = .ok (.invokespecial 18, 3) := by decide +kernel
theorem d_TG_init_27 : decode prog_1_method_1_code 27 = .ok (.putfield 21, 3) := by decide +kernel
theorem d_TG_init_30 : decode prog_1_method_1_code 30 = .ok (.aload_n 0, 1) := by decide +kernel
theorem d_TG_init_31 : decode prog_1_method_1_code 31 = .ok (.new 25, 3) := by decide +kernel
theorem d_TG_init_34 : decode prog_1_method_1_code 34 = .ok (.dup, 1) := by decide +kernel
theorem d_TG_init_35 : decode prog_1_method_1_code 35 = .ok (.invokespecial 27, 3) := by decide +kernel
theorem d_TG_init_38 : decode prog_1_method_1_code 38 = .ok (.putfield 28, 3) := by decide +kernel
theorem d_TG_init_41 : decode prog_1_method_1_code 41 = .ok (.aload_n 0, 1) := by decide +kernel
theorem d_TG_init_42 : decode prog_1_method_1_code 42 = .ok (.new 32, 3) := by decide +kernel
theorem d_TG_init_45 : decode prog_1_method_1_code 45 = .ok (.dup, 1) := by decide +kernel
theorem d_TG_init_46 : decode prog_1_method_1_code 46 = .ok (.invokespecial 34, 3) := by decide +kernel
theorem d_TG_init_49 : decode prog_1_method_1_code 49 = .ok (.putfield 35, 3) := by decide +kernel
theorem d_TG_init_52 : decode prog_1_method_1_code 52 = .ok (.aload_n 0, 1) := by decide +kernel
theorem d_TG_init_53 : decode prog_1_method_1_code 53 = .ok (.new 39, 3) := by decide +kernel
theorem d_TG_init_56 : decode prog_1_method_1_code 56 = .ok (.dup, 1) := by decide +kernel
theorem d_TG_init_57 : decode prog_1_method_1_code 57 = .ok (.aload_n 0, 1) := by decide +kernel
theorem d_TG_init_58 : decode prog_1_method_1_code 58 = .ok (.getfield 35, 3) := by decide +kernel
theorem d_TG_init_61 : decode prog_1_method_1_code 61 = .ok (.invokespecial 41, 3) := by decide +kernel
theorem d_TG_init_64 : decode prog_1_method_1_code 64 = .ok (.putfield 44, 3) := by decide +kernel
theorem d_TG_init_67 : decode prog_1_method_1_code 67 = .ok (.aload_n 0, 1) := by decide +kernel
theorem d_TG_init_68 : decode prog_1_method_1_code 68 = .ok (.new 48, 3) := by decide +kernel
theorem d_TG_init_71 : decode prog_1_method_1_code 71 = .ok (.dup, 1) := by decide +kernel
theorem d_TG_init_72 : decode prog_1_method_1_code 72 = .ok (.invokespecial 50, 3) := by decide +kernel
theorem d_TG_init_75 : decode prog_1_method_1_code 75 = .ok (.putfield 51, 3) := by decide +kernel
theorem d_TG_init_78 : decode prog_1_method_1_code 78 = .ok (.aload_n 0, 1) := by decide +kernel
theorem d_TG_init_79 : decode prog_1_method_1_code 79 = .ok (.new 55, 3) := by decide +kernel
theorem d_TG_init_82 : decode prog_1_method_1_code 82 = .ok (.dup, 1) := by decide +kernel
theorem d_TG_init_83 : decode prog_1_method_1_code 83 = .ok (.aload_n 0, 1) := by decide +kernel
theorem d_TG_init_84 : decode prog_1_method_1_code 84 = .ok (.getfield 35, 3) := by decide +kernel
theorem d_TG_init_87 : decode prog_1_method_1_code 87 = .ok (.aload_n 0, 1) := by decide +kernel
theorem d_TG_init_88 : decode prog_1_method_1_code 88 = .ok (.getfield 44, 3) := by decide +kernel
theorem d_TG_init_91 : decode prog_1_method_1_code 91 = .ok (.aload_n 0, 1) := by decide +kernel
theorem d_TG_init_92 : decode prog_1_method_1_code 92 = .ok (.getfield 28, 3) := by decide +kernel
theorem d_TG_init_95 : decode prog_1_method_1_code 95 = .ok (.invokespecial 57, 3) := by decide +kernel
theorem d_TG_init_98 : decode prog_1_method_1_code 98 = .ok (.putfield 60, 3) := by decide +kernel
theorem d_TG_init_101 : decode prog_1_method_1_code 101 = .ok (.aload_n 0, 1) := by decide +kernel
theorem d_TG_init_102 : decode prog_1_method_1_code 102 = .ok (.new 64, 3) := by decide +kernel
theorem d_TG_init_105 : decode prog_1_method_1_code 105 = .ok (.dup, 1) := by decide +kernel
theorem d_TG_init_106 : decode prog_1_method_1_code 106 = .ok (.invokespecial 66, 3) := by decide +kernel
theorem d_TG_init_109 : decode prog_1_method_1_code 109 = .ok (.putfield 67, 3) := by decide +kernel
theorem d_TG_init_112 : decode prog_1_method_1_code 112 = .ok (.aload_n 0, 1) := by decide +kernel
theorem d_TG_init_113 : decode prog_1_method_1_code 113 = .ok (.new 71, 3) := by decide +kernel
theorem d_TG_init_116 : decode prog_1_method_1_code 116 = .ok (.dup, 1) := by decide +kernel
theorem d_TG_init_117 : decode prog_1_method_1_code 117 = .ok (.invokespecial 73, 3) := by decide +kernel
theorem d_TG_init_120 : decode prog_1_method_1_code 120 = .ok (.putfield 74, 3) := by decide +kernel
theorem d_TG_init_123 : decode prog_1_method_1_code 123 = .ok (.aload_n 0, 1) := by decide +kernel
theorem d_TG_init_124 : decode prog_1_method_1_code 124 = .ok (.iconst 1, 1) := by decide +kernel
theorem d_TG_init_125 : decode prog_1_method_1_code 125 = .ok (.putfield 78, 3) := by decide +kernel
theorem d_TG_init_128 : decode prog_1_method_1_code 128 = .ok (.return_, 1) := by decide +kernel
theorem d_Dr_init_0 : decode prog_3_method_1_code 0 = .ok (.aload_n 0, 1) := by decide +kernel
theorem d_Dr_init_1 : decode prog_3_method_1_code 1 = .ok (.invokespecial 3, 3) := by decide +kernel
theorem d_Dr_init_4 : decode prog_3_method_1_code 4 = .ok (.aload_n 0, 1) := by decide +kernel
theorem d_Dr_init_5 : decode prog_3_method_1_code 5 = .ok (.bipush 40, 2) := by decide +kernel
theorem d_Dr_init_7 : decode prog_3_method_1_code 7 = .ok (.newarray .char, 2) := by decide +kernel
theorem d_Dr_init_9 : decode prog_3_method_1_code 9 = .ok (.putfield 9, 3) := by decide +kernel
theorem d_Dr_init_12 : decode prog_3_method_1_code 12 = .ok (.return_, 1) := by decide +kernel
theorem d_El_init_0 : decode prog_4_method_1_code 0 = .ok (.aload_n 0, 1) := by decide +kernel
theorem d_El_init_1 : decode prog_4_method_1_code 1 = .ok (.invokespecial 3, 3) := by decide +kernel
theorem d_El_init_4 : decode prog_4_method_1_code 4 = .ok (.return_, 1) := by decide +kernel
theorem d_Fa_init_0 : decode prog_5_method_1_code 0 = .ok (.aload_n 0, 1) := by decide +kernel
theorem d_Fa_init_1 : decode prog_5_method_1_code 1 = .ok (.invokespecial 3, 3) := by decide +kernel
theorem d_Fa_init_4 : decode prog_5_method_1_code 4 = .ok (.aload_n 0, 1) := by decide +kernel
theorem d_Fa_init_5 : decode prog_5_method_1_code 5 = .ok (.sipush 201, 3) := by decide +kernel
theorem d_Fa_init_8 : decode prog_5_method_1_code 8 = .ok (.newarray .int, 2) := by decide +kernel
theorem d_Fa_init_10 : decode prog_5_method_1_code 10 = .ok (.putfield 9, 3) := by decide +kernel
theorem d_Fa_init_13 : decode prog_5_method_1_code 13 = .ok (.return_, 1) := by decide +kernel
theorem d_Fo_init_0 : decode prog_6_method_1_code 0 = .ok (.aload_n 0, 1) := by decide +kernel
theorem d_Fo_init_1 : decode prog_6_method_1_code 1 = .ok (.invokespecial 3, 3) := by decide +kernel
theorem d_Fo_init_4 : decode prog_6_method_1_code 4 = .ok (.aload_n 0, 1) := by decide +kernel
theorem d_Fo_init_5 : decode prog_6_method_1_code 5 = .ok (.sipush 694, 3) := by decide +kernel
theorem d_Fo_init_8 : decode prog_6_method_1_code 8 = .ok (.newarray .char, 2) := by decide +kernel
theorem d_Fo_init_10 : decode prog_6_method_1_code 10 = .ok (.putfield 9, 3) := by decide +kernel
theorem d_Fo_init_13 : decode prog_6_method_1_code 13 = .ok (.aload_n 0, 1) := by decide +kernel
theorem d_Fo_init_14 : decode prog_6_method_1_code 14 = .ok (.aload_n 1, 1) := by decide +kernel
theorem d_Fo_init_15 : decode prog_6_method_1_code 15 = .ok (.putfield 15, 3) := by decide +kernel
theorem d_Fo_init_18 : decode prog_6_method_1_code 18 = .ok (.aload_n 0, 1) := by decide +kernel
theorem d_Fo_init_19 : decode prog_6_method_1_code 19 = .ok (.aload_n 2, 1) := by decide +kernel
theorem d_Fo_init_20 : decode prog_6_method_1_code 20 = .ok (.putfield 19, 3) := by decide +kernel
theorem d_Fo_init_23 : decode prog_6_method_1_code 23 = .ok (.aload_n 0, 1) := by decide +kernel
theorem d_Fo_init_24 : decode prog_6_method_1_code 24 = .ok (.aload_n 3, 1) := by decide +kernel
theorem d_Fo_init_25 : decode prog_6_method_1_code 25 = .ok (.putfield 23, 3) := by decide +kernel
theorem d_Fo_init_28 : decode prog_6_method_1_code 28 = .ok (.return_, 1) := by decide +kernel
theorem d_In_init_0 : decode prog_7_method_1_code 0 = .ok (.aload_n 0, 1) := by decide +kernel
theorem d_In_init_1 : decode prog_7_method_1_code 1 = .ok (.invokespecial 3, 3) := by decide +kernel
theorem d_In_init_4 : decode prog_7_method_1_code 4 = .ok (.aload_n 0, 1) := by decide +kernel
theorem d_In_init_5 : decode prog_7_method_1_code 5 = .ok (.bipush 12, 2) := by decide +kernel
theorem d_In_init_7 : decode prog_7_method_1_code 7 = .ok (.newarray .int, 2) := by decide +kernel
theorem d_In_init_9 : decode prog_7_method_1_code 9 = .ok (.putfield 9, 3) := by decide +kernel
theorem d_In_init_12 : decode prog_7_method_1_code 12 = .ok (.aload_n 0, 1) := by decide +kernel
theorem d_In_init_13 : decode prog_7_method_1_code 13 = .ok (.bipush 12, 2) := by decide +kernel
theorem d_In_init_15 : decode prog_7_method_1_code 15 = .ok (.newarray .int, 2) := by decide +kernel
theorem d_In_init_17 : decode prog_7_method_1_code 17 = .ok (.putfield 15, 3) := by decide +kernel
theorem d_In_init_20 : decode prog_7_method_1_code 20 = .ok (.aload_n 0, 1) := by decide +kernel
theorem d_In_init_21 : decode prog_7_method_1_code 21 = .ok (.bipush 12, 2) := by decide +kernel
theorem d_In_init_23 : decode prog_7_method_1_code 23 = .ok (.newarray .int, 2) := by decide +kernel
theorem d_In_init_25 : decode prog_7_method_1_code 25 = .ok (.putfield 18, 3) := by decide +kernel
theorem d_In_init_28 : decode prog_7_method_1_code 28 = .ok (.aload_n 0, 1) := by decide +kernel
theorem d_In_init_29 : decode prog_7_method_1_code 29 = .ok (.bipush 12, 2) := by decide +kernel
theorem d_In_init_31 : decode prog_7_method_1_code 31 = .ok (.newarray .int, 2) := by decide +kernel
theorem d_In_init_33 : decode prog_7_method_1_code 33 = .ok (.putfield 21, 3) := by decide +kernel
theorem d_In_init_36 : decode prog_7_method_1_code 36 = .ok (.return_, 1) := by decide +kernel
theorem d_An_init_0 : decode prog_2_method_1_code 0 = .ok (.aload_n 0, 1) := by decide +kernel
theorem d_An_init_1 : decode prog_2_method_1_code 1 = .ok (.invokespecial 3, 3) := by decide +kernel
theorem d_An_init_4 : decode prog_2_method_1_code 4 = .ok (.aload_n 0, 1) := by decide +kernel
theorem d_An_init_5 : decode prog_2_method_1_code 5 = .ok (.bipush 8, 2) := by decide +kernel
theorem d_An_init_7 : decode prog_2_method_1_code 7 = .ok (.newarray .int, 2) := by decide +kernel
theorem d_An_init_9 : decode prog_2_method_1_code 9 = .ok (.putfield 9, 3) := by decide +kernel
theorem d_An_init_12 : decode prog_2_method_1_code 12 = .ok (.aload_n 0, 1) := by decide +kernel
theorem d_An_init_13 : decode prog_2_method_1_code 13 = .ok (.bipush 8, 2) := by decide +kernel
theorem d_An_init_15 : decode prog_2_method_1_code 15 = .ok (.newarray .int, 2) := by decide +kernel
theorem d_An_init_17 : decode prog_2_method_1_code 17 = .ok (.putfield 15, 3) := by decide +kernel
theorem d_An_init_20 : decode prog_2_method_1_code 20 = .ok (.return_, 1) := by decide +kernel
theorem d_TG_write_0 : decode prog_1_method_2_code 0 = .ok (.aload_n 0, 1) := by decide +kernel
theorem d_TG_write_1 : decode prog_1_method_2_code 1 = .ok (.getfield 12, 3) := by decide +kernel
theorem d_TG_write_4 : decode prog_1_method_2_code 4 = .ok (.iload_n 1, 1) := by decide +kernel
theorem d_TG_write_5 : decode prog_1_method_2_code 5 = .ok (.invokevirtual 82, 3) := by decide +kernel
theorem d_TG_write_8 : decode prog_1_method_2_code 8 = .ok (.ireturn, 1) := by decide +kernel
theorem d_Dr_append_0 : decode prog_3_method_2_code 0 = .ok (.iload_n 1, 1) := by decide +kernel
theorem d_Dr_append_1 : decode prog_3_method_2_code 1 = .ok (.invokestatic 15, 3) := by decide +kernel
theorem d_Dr_append_4 : decode prog_3_method_2_code 4 = .ok (.ifCond .eq 12, 3) := by decide +kernel
theorem d_Dr_append_7 : decode prog_3_method_2_code 7 = .ok (.aload_n 0, 1) := by decide +kernel
theorem d_Dr_append_8 : decode prog_3_method_2_code 8 = .ok (.getfield 19, 3) := by decide +kernel
theorem d_Dr_append_11 : decode prog_3_method_2_code 11 = .ok (.bipush 40, 2) := by decide +kernel
theorem d_Dr_append_13 : decode prog_3_method_2_code 13 = .ok (.if_icmp .lt 5, 3) := by decide +kernel
theorem d_Dr_append_16 : decode prog_3_method_2_code 16 = .ok (.iconst 0, 1) := by decide +kernel
theorem d_Dr_append_17 : decode prog_3_method_2_code 17 = .ok (.ireturn, 1) := by decide +kernel
theorem d_Dr_append_18 : decode prog_3_method_2_code 18 = .ok (.aload_n 0, 1) := by decide +kernel
theorem d_Dr_append_19 : decode prog_3_method_2_code 19 = .ok (.getfield 9, 3) := by decide +kernel
theorem d_Dr_append_22 : decode prog_3_method_2_code 22 = .ok (.aload_n 0, 1) := by decide +kernel
theorem d_Dr_append_23 : decode prog_3_method_2_code 23 = .ok (.getfield 19, 3) := by decide +kernel
theorem d_Dr_append_26 : decode prog_3_method_2_code 26 = .ok (.iload_n 1, 1) := by decide +kernel
theorem d_Dr_append_27 : decode prog_3_method_2_code 27 = .ok (.castore, 1) := by decide +kernel
theorem d_Dr_append_28 : decode prog_3_method_2_code 28 = .ok (.aload_n 0, 1) := by decide +kernel
theorem d_Dr_append_29 : decode prog_3_method_2_code 29 = .ok (.dup, 1) := by decide +kernel
theorem d_Dr_append_30 : decode prog_3_method_2_code 30 = .ok (.getfield 19, 3) := by decide +kernel
theorem d_Dr_append_33 : decode prog_3_method_2_code 33 = .ok (.iconst 1, 1) := by decide +kernel
theorem d_Dr_append_34 : decode prog_3_method_2_code 34 = .ok (.iadd, 1) := by decide +kernel
theorem d_Dr_append_35 : decode prog_3_method_2_code 35 = .ok (.putfield 19, 3) := by decide +kernel
theorem d_Dr_append_38 : decode prog_3_method_2_code 38 = .ok (.iconst 1, 1) := by decide +kernel
theorem d_Dr_append_39 : decode prog_3_method_2_code 39 = .ok (.ireturn, 1) := by decide +kernel
theorem d_TG_isWritable_0 : decode prog_1_method_23_code 0 = .ok (.iload_n 0, 1) := by decide +kernel
theorem d_TG_isWritable_1 : decode prog_1_method_23_code 1 = .ok (.bipush 32, 2) := by decide +kernel
theorem d_TG_isWritable_3 : decode prog_1_method_23_code 3 = .ok (.if_icmp .lt 13, 3) := by decide +kernel
theorem d_TG_isWritable_6 : decode prog_1_method_23_code 6 = .ok (.iload_n 0, 1) := by decide +kernel
theorem d_TG_isWritable_7 : decode prog_1_method_23_code 7 = .ok (.bipush 126, 2) := by decide +kernel
theorem d_TG_isWritable_9 : decode prog_1_method_23_code 9 = .ok (.if_icmp .gt 7, 3) := by decide +kernel
theorem d_TG_isWritable_12 : decode prog_1_method_23_code 12 = .ok (.iconst 1, 1) := by decide +kernel
theorem d_TG_isWritable_13 : decode prog_1_method_23_code 13 = .ok (.goto 4, 3) := by decide +kernel
theorem d_TG_isWritable_16 : decode prog_1_method_23_code 16 = .ok (.iconst 0, 1) := by decide +kernel
theorem d_TG_isWritable_17 : decode prog_1_method_23_code 17 = .ok (.ireturn, 1) := by decide +kernel
theorem d_TG_define_0 : decode prog_1_method_3_code 0 = .ok (.iconst (-1), 1) := by decide +kernel
theorem d_TG_define_1 : decode prog_1_method_3_code 1 = .ok (.istore_n 2, 1) := by decide +kernel
theorem d_TG_define_2 : decode prog_1_method_3_code 2 = .ok (.iload_n 1, 1) := by decide +kernel
theorem d_TG_define_3 : decode prog_1_method_3_code 3 = .ok (.bipush 46, 2) := by decide +kernel
theorem d_TG_define_5 : decode prog_1_method_3_code 5 = .ok (.if_icmp .eq 10, 3) := by decide +kernel
theorem d_TG_define_8 : decode prog_1_method_3_code 8 = .ok (.iload_n 1, 1) := by decide +kernel
theorem d_TG_define_9 : decode prog_1_method_3_code 9 = .ok (.invokestatic 86, 3) := by decide +kernel
theorem d_TG_define_12 : decode prog_1_method_3_code 12 = .ok (.ifCond .eq 33, 3) := by decide +kernel
theorem d_TG_define_15 : decode prog_1_method_3_code 15 = .ok (.aload_n 0, 1) := by decide +kernel
theorem d_TG_define_16 : decode prog_1_method_3_code 16 = .ok (.getfield 12, 3) := by decide +kernel
theorem d_TG_define_19 : decode prog_1_method_3_code 19 = .ok (.invokevirtual 90, 3) := by decide +kernel
theorem d_TG_define_22 : decode prog_1_method_3_code 22 = .ok (.ifCond .eq 8, 3) := by decide +kernel
theorem d_TG_define_25 : decode prog_1_method_3_code 25 = .ok (.bipush (-2), 2) := by decide +kernel
theorem d_TG_define_27 : decode prog_1_method_3_code 27 = .ok (.goto 17, 3) := by decide +kernel
theorem d_TG_define_30 : decode prog_1_method_3_code 30 = .ok (.aload_n 0, 1) := by decide +kernel
theorem d_TG_define_31 : decode prog_1_method_3_code 31 = .ok (.getfield 21, 3) := by decide +kernel
theorem d_TG_define_34 : decode prog_1_method_3_code 34 = .ok (.aload_n 0, 1) := by decide +kernel
theorem d_TG_define_35 : decode prog_1_method_3_code 35 = .ok (.getfield 28, 3) := by decide +kernel
theorem d_TG_define_38 : decode prog_1_method_3_code 38 = .ok (.getfield 94, 3) := by decide +kernel
theorem d_TG_define_41 : decode prog_1_method_3_code 41 = .ok (.invokevirtual 98, 3) := by decide +kernel
theorem d_TG_define_44 : decode prog_1_method_3_code 44 = .ok (.istore_n 2, 1) := by decide +kernel
theorem d_TG_define_45 : decode prog_1_method_3_code 45 = .ok (.iload_n 2, 1) := by decide +kernel
theorem d_TG_define_46 : decode prog_1_method_3_code 46 = .ok (.ifCond .ne 16, 3) := by decide +kernel
theorem d_TG_define_49 : decode prog_1_method_3_code 49 = .ok (.aload_n 0, 1) := by decide +kernel
theorem d_TG_define_50 : decode prog_1_method_3_code 50 = .ok (.getfield 28, 3) := by decide +kernel
theorem d_TG_define_53 : decode prog_1_method_3_code 53 = .ok (.iload_n 1, 1) := by decide +kernel
theorem d_TG_define_54 : decode prog_1_method_3_code 54 = .ok (.invokevirtual 102, 3) := by decide +kernel
theorem d_TG_define_57 : decode prog_1_method_3_code 57 = .ok (.aload_n 0, 1) := by decide +kernel
theorem d_TG_define_58 : decode prog_1_method_3_code 58 = .ok (.iconst 1, 1) := by decide +kernel
theorem d_TG_define_59 : decode prog_1_method_3_code 59 = .ok (.putfield 78, 3) := by decide +kernel
theorem d_TG_define_62 : decode prog_1_method_3_code 62 = .ok (.aload_n 0, 1) := by decide +kernel
theorem d_TG_define_63 : decode prog_1_method_3_code 63 = .ok (.getfield 12, 3) := by decide +kernel
theorem d_TG_define_66 : decode prog_1_method_3_code 66 = .ok (.invokevirtual 106, 3) := by decide +kernel
theorem d_TG_define_69 : decode prog_1_method_3_code 69 = .ok (.iload_n 2, 1) := by decide +kernel
theorem d_TG_define_70 : decode prog_1_method_3_code 70 = .ok (.ireturn, 1) := by decide +kernel
theorem d_TG_isName_0 : decode prog_1_method_22_code 0 = .ok (.iload_n 0, 1) := by decide +kernel
theorem d_TG_isName_1 : decode prog_1_method_22_code 1 = .ok (.bipush 97, 2) := by decide +kernel
theorem d_TG_isName_3 : decode prog_1_method_22_code 3 = .ok (.if_icmp .lt 13, 3) := by decide +kernel
theorem d_TG_isName_6 : decode prog_1_method_22_code 6 = .ok (.iload_n 0, 1) := by decide +kernel
theorem d_TG_isName_7 : decode prog_1_method_22_code 7 = .ok (.bipush 105, 2) := by decide +kernel
theorem d_TG_isName_9 : decode prog_1_method_22_code 9 = .ok (.if_icmp .ge 7, 3) := by decide +kernel
theorem d_TG_isName_12 : decode prog_1_method_22_code 12 = .ok (.iconst 1, 1) := by decide +kernel
theorem d_TG_isName_13 : decode prog_1_method_22_code 13 = .ok (.goto 4, 3) := by decide +kernel
theorem d_TG_isName_16 : decode prog_1_method_22_code 16 = .ok (.iconst 0, 1) := by decide +kernel
theorem d_TG_isName_17 : decode prog_1_method_22_code 17 = .ok (.ireturn, 1) := by decide +kernel
theorem d_Dr_isTooLarge_0 : decode prog_3_method_5_code 0 = .ok (.iconst 0, 1) := by decide +kernel
theorem d_Dr_isTooLarge_1 : decode prog_3_method_5_code 1 = .ok (.istore_n 1, 1) := by decide +kernel
theorem d_Dr_isTooLarge_2 : decode prog_3_method_5_code 2 = .ok (.iconst 0, 1) := by decide +kernel
theorem d_Dr_isTooLarge_3 : decode prog_3_method_5_code 3 = .ok (.istore_n 2, 1) := by decide +kernel
theorem d_Dr_isTooLarge_4 : decode prog_3_method_5_code 4 = .ok (.iconst 0, 1) := by decide +kernel
theorem d_Dr_isTooLarge_5 : decode prog_3_method_5_code 5 = .ok (.istore_n 3, 1) := by decide +kernel
theorem d_Dr_isTooLarge_6 : decode prog_3_method_5_code 6 = .ok (.iload_n 3, 1) := by decide +kernel
theorem d_Dr_isTooLarge_7 : decode prog_3_method_5_code 7 = .ok (.aload_n 0, 1) := by decide +kernel
theorem d_Dr_isTooLarge_8 : decode prog_3_method_5_code 8 = .ok (.getfield 19, 3) := by decide +kernel
theorem d_Dr_isTooLarge_11 : decode prog_3_method_5_code 11 = .ok (.if_icmp .ge 41, 3) := by decide +kernel
theorem d_Dr_isTooLarge_14 : decode prog_3_method_5_code 14 = .ok (.aload_n 0, 1) := by decide +kernel
theorem d_Dr_isTooLarge_15 : decode prog_3_method_5_code 15 = .ok (.getfield 9, 3) := by decide +kernel
theorem d_Dr_isTooLarge_18 : decode prog_3_method_5_code 18 = .ok (.iload_n 3, 1) := by decide +kernel
theorem d_Dr_isTooLarge_19 : decode prog_3_method_5_code 19 = .ok (.caload, 1) := by decide +kernel
theorem d_Dr_isTooLarge_20 : decode prog_3_method_5_code 20 = .ok (.invokestatic 23, 3) := by decide +kernel
theorem d_Dr_isTooLarge_23 : decode prog_3_method_5_code 23 = .ok (.ifCond .eq 9, 3) := by decide +kernel
theorem d_Dr_isTooLarge_26 : decode prog_3_method_5_code 26 = .ok (.iinc 1 1, 3) := by decide +kernel
theorem d_Dr_isTooLarge_29 : decode prog_3_method_5_code 29 = .ok (.goto 17, 3) := by decide +kernel
theorem d_Dr_isTooLarge_32 : decode prog_3_method_5_code 32 = .ok (.aload_n 0, 1) := by decide +kernel
theorem d_Dr_isTooLarge_33 : decode prog_3_method_5_code 33 = .ok (.getfield 9, 3) := by decide +kernel
theorem d_Dr_isTooLarge_36 : decode prog_3_method_5_code 36 = .ok (.iload_n 3, 1) := by decide +kernel
theorem d_Dr_isTooLarge_37 : decode prog_3_method_5_code 37 = .ok (.caload, 1) := by decide +kernel
theorem d_Dr_isTooLarge_38 : decode prog_3_method_5_code 38 = .ok (.bipush 40, 2) := by decide +kernel
theorem d_Dr_isTooLarge_40 : decode prog_3_method_5_code 40 = .ok (.if_icmp .ne 6, 3) := by decide +kernel
theorem d_Dr_isTooLarge_43 : decode prog_3_method_5_code 43 = .ok (.iinc 2 1, 3) := by decide +kernel
theorem d_Dr_isTooLarge_46 : decode prog_3_method_5_code 46 = .ok (.iinc 3 1, 3) := by decide +kernel
theorem d_Dr_isTooLarge_49 : decode prog_3_method_5_code 49 = .ok (.goto (-43), 3) := by decide +kernel
theorem d_Dr_isTooLarge_52 : decode prog_3_method_5_code 52 = .ok (.iload_n 1, 1) := by decide +kernel
theorem d_Dr_isTooLarge_53 : decode prog_3_method_5_code 53 = .ok (.bipush 10, 2) := by decide +kernel
theorem d_Dr_isTooLarge_55 : decode prog_3_method_5_code 55 = .ok (.if_icmp .gt 9, 3) := by decide +kernel
theorem d_Dr_isTooLarge_58 : decode prog_3_method_5_code 58 = .ok (.iload_n 2, 1) := by decide +kernel
theorem d_Dr_isTooLarge_59 : decode prog_3_method_5_code 59 = .ok (.bipush 6, 2) := by decide +kernel
theorem d_Dr_isTooLarge_61 : decode prog_3_method_5_code 61 = .ok (.if_icmp .le 7, 3) := by decide +kernel
theorem d_Dr_isTooLarge_64 : decode prog_3_method_5_code 64 = .ok (.iconst 1, 1) := by decide +kernel
theorem d_Dr_isTooLarge_65 : decode prog_3_method_5_code 65 = .ok (.goto 4, 3) := by decide +kernel
theorem d_Dr_isTooLarge_68 : decode prog_3_method_5_code 68 = .ok (.iconst 0, 1) := by decide +kernel
theorem d_Dr_isTooLarge_69 : decode prog_3_method_5_code 69 = .ok (.ireturn, 1) := by decide +kernel
theorem d_Dr_at_0 : decode prog_3_method_4_code 0 = .ok (.iload_n 1, 1) := by decide +kernel
theorem d_Dr_at_1 : decode prog_3_method_4_code 1 = .ok (.ifCond .lt 20, 3) := by decide +kernel
theorem d_Dr_at_4 : decode prog_3_method_4_code 4 = .ok (.iload_n 1, 1) := by decide +kernel
theorem d_Dr_at_5 : decode prog_3_method_4_code 5 = .ok (.aload_n 0, 1) := by decide +kernel
theorem d_Dr_at_6 : decode prog_3_method_4_code 6 = .ok (.getfield 19, 3) := by decide +kernel
theorem d_Dr_at_9 : decode prog_3_method_4_code 9 = .ok (.if_icmp .ge 12, 3) := by decide +kernel
theorem d_Dr_at_12 : decode prog_3_method_4_code 12 = .ok (.aload_n 0, 1) := by decide +kernel
theorem d_Dr_at_13 : decode prog_3_method_4_code 13 = .ok (.getfield 9, 3) := by decide +kernel
theorem d_Dr_at_16 : decode prog_3_method_4_code 16 = .ok (.iload_n 1, 1) := by decide +kernel
theorem d_Dr_at_17 : decode prog_3_method_4_code 17 = .ok (.caload, 1) := by decide +kernel
theorem d_Dr_at_18 : decode prog_3_method_4_code 18 = .ok (.goto 4, 3) := by decide +kernel
theorem d_Dr_at_21 : decode prog_3_method_4_code 21 = .ok (.iconst (-1), 1) := by decide +kernel
theorem d_Dr_at_22 : decode prog_3_method_4_code 22 = .ok (.ireturn, 1) := by decide +kernel
theorem d_Dr_clear_0 : decode prog_3_method_3_code 0 = .ok (.aload_n 0, 1) := by decide +kernel
theorem d_Dr_clear_1 : decode prog_3_method_3_code 1 = .ok (.iconst 0, 1) := by decide +kernel
theorem d_Dr_clear_2 : decode prog_3_method_3_code 2 = .ok (.putfield 19, 3) := by decide +kernel
theorem d_Dr_clear_5 : decode prog_3_method_3_code 5 = .ok (.return_, 1) := by decide +kernel
theorem d_TG_insert_0 : decode prog_1_method_4_code 0 = .ok (.aload_n 0, 1) := by decide +kernel
theorem d_TG_insert_1 : decode prog_1_method_4_code 1 = .ok (.getfield 67, 3) := by decide +kernel
theorem d_TG_insert_4 : decode prog_1_method_4_code 4 = .ok (.iconst 4, 1) := by decide +kernel
theorem d_TG_insert_5 : decode prog_1_method_4_code 5 = .ok (.iconst 0, 1) := by decide +kernel
theorem d_TG_insert_6 : decode prog_1_method_4_code 6 = .ok (.iload_n 1, 1) := by decide +kernel
theorem d_TG_insert_7 : decode prog_1_method_4_code 7 = .ok (.iload_n 2, 1) := by decide +kernel
theorem d_TG_insert_8 : decode prog_1_method_4_code 8 = .ok (.invokevirtual 109, 3) := by decide +kernel
theorem d_TG_insert_11 : decode prog_1_method_4_code 11 = .ok (.ireturn, 1) := by decide +kernel
theorem d_In_put_0 : decode prog_7_method_3_code 0 = .ok (.aload_n 0, 1) := by decide +kernel
theorem d_In_put_1 : decode prog_7_method_3_code 1 = .ok (.invokevirtual 28, 3) := by decide +kernel
theorem d_In_put_4 : decode prog_7_method_3_code 4 = .ok (.ifCond .eq 5, 3) := by decide +kernel
theorem d_In_put_7 : decode prog_7_method_3_code 7 = .ok (.iconst 0, 1) := by decide +kernel
theorem d_In_put_8 : decode prog_7_method_3_code 8 = .ok (.ireturn, 1) := by decide +kernel
theorem d_In_put_9 : decode prog_7_method_3_code 9 = .ok (.aload_n 0, 1) := by decide +kernel
theorem d_In_put_10 : decode prog_7_method_3_code 10 = .ok (.getfield 9, 3) := by decide +kernel
theorem d_In_put_13 : decode prog_7_method_3_code 13 = .ok (.aload_n 0, 1) := by decide +kernel
theorem d_In_put_14 : decode prog_7_method_3_code 14 = .ok (.getfield 24, 3) := by decide +kernel
theorem d_In_put_17 : decode prog_7_method_3_code 17 = .ok (.iload_n 1, 1) := by decide +kernel
theorem d_In_put_18 : decode prog_7_method_3_code 18 = .ok (.iastore, 1) := by decide +kernel
theorem d_In_put_19 : decode prog_7_method_3_code 19 = .ok (.aload_n 0, 1) := by decide +kernel
theorem d_In_put_20 : decode prog_7_method_3_code 20 = .ok (.getfield 15, 3) := by decide +kernel
theorem d_In_put_23 : decode prog_7_method_3_code 23 = .ok (.aload_n 0, 1) := by decide +kernel
theorem d_In_put_24 : decode prog_7_method_3_code 24 = .ok (.getfield 24, 3) := by decide +kernel
theorem d_In_put_27 : decode prog_7_method_3_code 27 = .ok (.iload_n 2, 1) := by decide +kernel
theorem d_In_put_28 : decode prog_7_method_3_code 28 = .ok (.iastore, 1) := by decide +kernel
theorem d_In_put_29 : decode prog_7_method_3_code 29 = .ok (.aload_n 0, 1) := by decide +kernel
theorem d_In_put_30 : decode prog_7_method_3_code 30 = .ok (.getfield 18, 3) := by decide +kernel
theorem d_In_put_33 : decode prog_7_method_3_code 33 = .ok (.aload_n 0, 1) := by decide +kernel
theorem d_In_put_34 : decode prog_7_method_3_code 34 = .ok (.getfield 24, 3) := by decide +kernel
theorem d_In_put_37 : decode prog_7_method_3_code 37 = .ok (.iload_n 3, 1) := by decide +kernel
theorem d_In_put_38 : decode prog_7_method_3_code 38 = .ok (.iastore, 1) := by decide +kernel
theorem d_In_put_39 : decode prog_7_method_3_code 39 = .ok (.aload_n 0, 1) := by decide +kernel
theorem d_In_put_40 : decode prog_7_method_3_code 40 = .ok (.getfield 21, 3) := by decide +kernel
theorem d_In_put_43 : decode prog_7_method_3_code 43 = .ok (.aload_n 0, 1) := by decide +kernel
theorem d_In_put_44 : decode prog_7_method_3_code 44 = .ok (.getfield 24, 3) := by decide +kernel
theorem d_In_put_47 : decode prog_7_method_3_code 47 = .ok (.iload 4, 2) := by decide +kernel
theorem d_In_put_49 : decode prog_7_method_3_code 49 = .ok (.iastore, 1) := by decide +kernel
theorem d_In_put_50 : decode prog_7_method_3_code 50 = .ok (.aload_n 0, 1) := by decide +kernel
theorem d_In_put_51 : decode prog_7_method_3_code 51 = .ok (.dup, 1) := by decide +kernel
theorem d_In_put_52 : decode prog_7_method_3_code 52 = .ok (.getfield 24, 3) := by decide +kernel
theorem d_In_put_55 : decode prog_7_method_3_code 55 = .ok (.iconst 1, 1) := by decide +kernel
theorem d_In_put_56 : decode prog_7_method_3_code 56 = .ok (.iadd, 1) := by decide +kernel
theorem d_In_put_57 : decode prog_7_method_3_code 57 = .ok (.putfield 24, 3) := by decide +kernel
theorem d_In_put_60 : decode prog_7_method_3_code 60 = .ok (.iconst 1, 1) := by decide +kernel
theorem d_In_put_61 : decode prog_7_method_3_code 61 = .ok (.ireturn, 1) := by decide +kernel
theorem d_In_isFull_0 : decode prog_7_method_2_code 0 = .ok (.aload_n 0, 1) := by decide +kernel
theorem d_In_isFull_1 : decode prog_7_method_2_code 1 = .ok (.getfield 24, 3) := by decide +kernel
theorem d_In_isFull_4 : decode prog_7_method_2_code 4 = .ok (.bipush 12, 2) := by decide +kernel
theorem d_In_isFull_6 : decode prog_7_method_2_code 6 = .ok (.if_icmp .lt 7, 3) := by decide +kernel
theorem d_In_isFull_9 : decode prog_7_method_2_code 9 = .ok (.iconst 1, 1) := by decide +kernel
theorem d_In_isFull_10 : decode prog_7_method_2_code 10 = .ok (.goto 4, 3) := by decide +kernel
theorem d_In_isFull_13 : decode prog_7_method_2_code 13 = .ok (.iconst 0, 1) := by decide +kernel
theorem d_In_isFull_14 : decode prog_7_method_2_code 14 = .ok (.ireturn, 1) := by decide +kernel
theorem d_TG_erase_0 : decode prog_1_method_5_code 0 = .ok (.aload_n 0, 1) := by decide +kernel
theorem d_TG_erase_1 : decode prog_1_method_5_code 1 = .ok (.getfield 67, 3) := by decide +kernel
theorem d_TG_erase_4 : decode prog_1_method_5_code 4 = .ok (.iconst 5, 1) := by decide +kernel
theorem d_TG_erase_5 : decode prog_1_method_5_code 5 = .ok (.iconst 0, 1) := by decide +kernel
theorem d_TG_erase_6 : decode prog_1_method_5_code 6 = .ok (.iload_n 1, 1) := by decide +kernel
theorem d_TG_erase_7 : decode prog_1_method_5_code 7 = .ok (.iload_n 2, 1) := by decide +kernel
theorem d_TG_erase_8 : decode prog_1_method_5_code 8 = .ok (.invokevirtual 109, 3) := by decide +kernel
theorem d_TG_erase_11 : decode prog_1_method_5_code 11 = .ok (.ireturn, 1) := by decide +kernel
theorem d_TG_ask_0 : decode prog_1_method_6_code 0 = .ok (.iload_n 1, 1) := by decide +kernel
theorem d_TG_ask_1 : decode prog_1_method_6_code 1 = .ok (.ifCond .lt 8, 3) := by decide +kernel
theorem d_TG_ask_4 : decode prog_1_method_6_code 4 = .ok (.iload_n 1, 1) := by decide +kernel
theorem d_TG_ask_5 : decode prog_1_method_6_code 5 = .ok (.iconst 3, 1) := by decide +kernel
theorem d_TG_ask_6 : decode prog_1_method_6_code 6 = .ok (.if_icmp .le 5, 3) := by decide +kernel
theorem d_TG_ask_9 : decode prog_1_method_6_code 9 = .ok (.iconst (-1), 1) := by decide +kernel
theorem d_TG_ask_10 : decode prog_1_method_6_code 10 = .ok (.ireturn, 1) := by decide +kernel
theorem d_TG_ask_11 : decode prog_1_method_6_code 11 = .ok (.aload_n 0, 1) := by decide +kernel
theorem d_TG_ask_12 : decode prog_1_method_6_code 12 = .ok (.getfield 67, 3) := by decide +kernel
theorem d_TG_ask_15 : decode prog_1_method_6_code 15 = .ok (.invokevirtual 113, 3) := by decide +kernel
theorem d_TG_ask_18 : decode prog_1_method_6_code 18 = .ok (.ifCond .eq 6, 3) := by decide +kernel
theorem d_TG_ask_21 : decode prog_1_method_6_code 21 = .ok (.bipush (-2), 2) := by decide +kernel
theorem d_TG_ask_23 : decode prog_1_method_6_code 23 = .ok (.ireturn, 1) := by decide +kernel
theorem d_TG_ask_24 : decode prog_1_method_6_code 24 = .ok (.aload_n 0, 1) := by decide +kernel
theorem d_TG_ask_25 : decode prog_1_method_6_code 25 = .ok (.getfield 67, 3) := by decide +kernel
theorem d_TG_ask_28 : decode prog_1_method_6_code 28 = .ok (.iload_n 1, 1) := by decide +kernel
theorem d_TG_ask_29 : decode prog_1_method_6_code 29 = .ok (.iload_n 2, 1) := by decide +kernel
theorem d_TG_ask_30 : decode prog_1_method_6_code 30 = .ok (.iload_n 3, 1) := by decide +kernel
theorem d_TG_ask_31 : decode prog_1_method_6_code 31 = .ok (.invokevirtual 116, 3) := by decide +kernel
theorem d_TG_ask_34 : decode prog_1_method_6_code 34 = .ok (.ireturn, 1) := by decide +kernel
theorem d_In_putRequest_0 : decode prog_7_method_4_code 0 = .ok (.aload_n 0, 1) := by decide +kernel
theorem d_In_putRequest_1 : decode prog_7_method_4_code 1 = .ok (.iload_n 1, 1) := by decide +kernel
theorem d_In_putRequest_2 : decode prog_7_method_4_code 2 = .ok (.aload_n 0, 1) := by decide +kernel
theorem d_In_putRequest_3 : decode prog_7_method_4_code 3 = .ok (.getfield 32, 3) := by decide +kernel
theorem d_In_putRequest_6 : decode prog_7_method_4_code 6 = .ok (.iconst 1, 1) := by decide +kernel
theorem d_In_putRequest_7 : decode prog_7_method_4_code 7 = .ok (.iadd, 1) := by decide +kernel
theorem d_In_putRequest_8 : decode prog_7_method_4_code 8 = .ok (.iload_n 2, 1) := by decide +kernel
theorem d_In_putRequest_9 : decode prog_7_method_4_code 9 = .ok (.iload_n 3, 1) := by decide +kernel
theorem d_In_putRequest_10 : decode prog_7_method_4_code 10 = .ok (.invokevirtual 35, 3) := by decide +kernel
theorem d_In_putRequest_13 : decode prog_7_method_4_code 13 = .ok (.ifCond .ne 5, 3) := by decide +kernel
theorem d_In_putRequest_16 : decode prog_7_method_4_code 16 = .ok (.iconst (-1), 1) := by decide +kernel
theorem d_In_putRequest_17 : decode prog_7_method_4_code 17 = .ok (.ireturn, 1) := by decide +kernel
theorem d_In_putRequest_18 : decode prog_7_method_4_code 18 = .ok (.aload_n 0, 1) := by decide +kernel
theorem d_In_putRequest_19 : decode prog_7_method_4_code 19 = .ok (.dup, 1) := by decide +kernel
theorem d_In_putRequest_20 : decode prog_7_method_4_code 20 = .ok (.getfield 32, 3) := by decide +kernel
theorem d_In_putRequest_23 : decode prog_7_method_4_code 23 = .ok (.iconst 1, 1) := by decide +kernel
theorem d_In_putRequest_24 : decode prog_7_method_4_code 24 = .ok (.iadd, 1) := by decide +kernel
theorem d_In_putRequest_25 : decode prog_7_method_4_code 25 = .ok (.putfield 32, 3) := by decide +kernel
theorem d_In_putRequest_28 : decode prog_7_method_4_code 28 = .ok (.aload_n 0, 1) := by decide +kernel
theorem d_In_putRequest_29 : decode prog_7_method_4_code 29 = .ok (.getfield 32, 3) := by decide +kernel
theorem d_In_putRequest_32 : decode prog_7_method_4_code 32 = .ok (.ireturn, 1) := by decide +kernel
theorem d_TG_cancel_0 : decode prog_1_method_7_code 0 = .ok (.aload_n 0, 1) := by decide +kernel
theorem d_TG_cancel_1 : decode prog_1_method_7_code 1 = .ok (.getfield 67, 3) := by decide +kernel
theorem d_TG_cancel_4 : decode prog_1_method_7_code 4 = .ok (.aload_n 0, 1) := by decide +kernel
theorem d_TG_cancel_5 : decode prog_1_method_7_code 5 = .ok (.getfield 67, 3) := by decide +kernel
theorem d_TG_cancel_8 : decode prog_1_method_7_code 8 = .ok (.iload_n 1, 1) := by decide +kernel
theorem d_TG_cancel_9 : decode prog_1_method_7_code 9 = .ok (.invokevirtual 120, 3) := by decide +kernel
theorem d_TG_cancel_12 : decode prog_1_method_7_code 12 = .ok (.invokevirtual 124, 3) := by decide +kernel
theorem d_TG_cancel_15 : decode prog_1_method_7_code 15 = .ok (.ireturn, 1) := by decide +kernel
theorem d_In_find_0 : decode prog_7_method_5_code 0 = .ok (.iload_n 1, 1) := by decide +kernel
theorem d_In_find_1 : decode prog_7_method_5_code 1 = .ok (.iconst 1, 1) := by decide +kernel
theorem d_In_find_2 : decode prog_7_method_5_code 2 = .ok (.if_icmp .ge 5, 3) := by decide +kernel
theorem d_In_find_5 : decode prog_7_method_5_code 5 = .ok (.iconst (-1), 1) := by decide +kernel
theorem d_In_find_6 : decode prog_7_method_5_code 6 = .ok (.ireturn, 1) := by decide +kernel
theorem d_In_find_7 : decode prog_7_method_5_code 7 = .ok (.iconst 0, 1) := by decide +kernel
theorem d_In_find_8 : decode prog_7_method_5_code 8 = .ok (.istore_n 2, 1) := by decide +kernel
theorem d_In_find_9 : decode prog_7_method_5_code 9 = .ok (.iload_n 2, 1) := by decide +kernel
theorem d_In_find_10 : decode prog_7_method_5_code 10 = .ok (.aload_n 0, 1) := by decide +kernel
theorem d_In_find_11 : decode prog_7_method_5_code 11 = .ok (.getfield 24, 3) := by decide +kernel
theorem d_In_find_14 : decode prog_7_method_5_code 14 = .ok (.if_icmp .ge 21, 3) := by decide +kernel
theorem d_In_find_17 : decode prog_7_method_5_code 17 = .ok (.aload_n 0, 1) := by decide +kernel
theorem d_In_find_18 : decode prog_7_method_5_code 18 = .ok (.getfield 15, 3) := by decide +kernel
theorem d_In_find_21 : decode prog_7_method_5_code 21 = .ok (.iload_n 2, 1) := by decide +kernel
theorem d_In_find_22 : decode prog_7_method_5_code 22 = .ok (.iaload, 1) := by decide +kernel
theorem d_In_find_23 : decode prog_7_method_5_code 23 = .ok (.iload_n 1, 1) := by decide +kernel
theorem d_In_find_24 : decode prog_7_method_5_code 24 = .ok (.if_icmp .ne 5, 3) := by decide +kernel
theorem d_In_find_27 : decode prog_7_method_5_code 27 = .ok (.iload_n 2, 1) := by decide +kernel
theorem d_In_find_28 : decode prog_7_method_5_code 28 = .ok (.ireturn, 1) := by decide +kernel
theorem d_In_find_29 : decode prog_7_method_5_code 29 = .ok (.iinc 2 1, 3) := by decide +kernel
theorem d_In_find_32 : decode prog_7_method_5_code 32 = .ok (.goto (-23), 3) := by decide +kernel
theorem d_In_find_35 : decode prog_7_method_5_code 35 = .ok (.iconst (-1), 1) := by decide +kernel
theorem d_In_find_36 : decode prog_7_method_5_code 36 = .ok (.ireturn, 1) := by decide +kernel
theorem d_In_takeOut_0 : decode prog_7_method_6_code 0 = .ok (.iload_n 1, 1) := by decide +kernel
theorem d_In_takeOut_1 : decode prog_7_method_6_code 1 = .ok (.ifCond .lt 11, 3) := by decide +kernel
theorem d_In_takeOut_4 : decode prog_7_method_6_code 4 = .ok (.iload_n 1, 1) := by decide +kernel
theorem d_In_takeOut_5 : decode prog_7_method_6_code 5 = .ok (.aload_n 0, 1) := by decide +kernel
theorem d_In_takeOut_6 : decode prog_7_method_6_code 6 = .ok (.getfield 24, 3) := by decide +kernel
theorem d_In_takeOut_9 : decode prog_7_method_6_code 9 = .ok (.if_icmp .lt 5, 3) := by decide +kernel
theorem d_In_takeOut_12 : decode prog_7_method_6_code 12 = .ok (.iconst 0, 1) := by decide +kernel
theorem d_In_takeOut_13 : decode prog_7_method_6_code 13 = .ok (.ireturn, 1) := by decide +kernel
theorem d_In_takeOut_14 : decode prog_7_method_6_code 14 = .ok (.aload_n 0, 1) := by decide +kernel
theorem d_In_takeOut_15 : decode prog_7_method_6_code 15 = .ok (.dup, 1) := by decide +kernel
theorem d_In_takeOut_16 : decode prog_7_method_6_code 16 = .ok (.getfield 24, 3) := by decide +kernel
theorem d_In_takeOut_19 : decode prog_7_method_6_code 19 = .ok (.iconst 1, 1) := by decide +kernel
theorem d_In_takeOut_20 : decode prog_7_method_6_code 20 = .ok (.isub, 1) := by decide +kernel
theorem d_In_takeOut_21 : decode prog_7_method_6_code 21 = .ok (.putfield 24, 3) := by decide +kernel
theorem d_In_takeOut_24 : decode prog_7_method_6_code 24 = .ok (.iload_n 1, 1) := by decide +kernel
theorem d_In_takeOut_25 : decode prog_7_method_6_code 25 = .ok (.istore_n 2, 1) := by decide +kernel
theorem d_In_takeOut_26 : decode prog_7_method_6_code 26 = .ok (.iload_n 2, 1) := by decide +kernel
theorem d_In_takeOut_27 : decode prog_7_method_6_code 27 = .ok (.aload_n 0, 1) := by decide +kernel
theorem d_In_takeOut_28 : decode prog_7_method_6_code 28 = .ok (.getfield 24, 3) := by decide +kernel
theorem d_In_takeOut_31 : decode prog_7_method_6_code 31 = .ok (.if_icmp .ge 65, 3) := by decide +kernel
theorem d_In_takeOut_34 : decode prog_7_method_6_code 34 = .ok (.aload_n 0, 1) := by decide +kernel
theorem d_In_takeOut_35 : decode prog_7_method_6_code 35 = .ok (.getfield 9, 3) := by decide +kernel
theorem d_In_takeOut_38 : decode prog_7_method_6_code 38 = .ok (.iload_n 2, 1) := by decide +kernel
theorem d_In_takeOut_39 : decode prog_7_method_6_code 39 = .ok (.aload_n 0, 1) := by decide +kernel
theorem d_In_takeOut_40 : decode prog_7_method_6_code 40 = .ok (.getfield 9, 3) := by decide +kernel
theorem d_In_takeOut_43 : decode prog_7_method_6_code 43 = .ok (.iload_n 2, 1) := by decide +kernel
theorem d_In_takeOut_44 : decode prog_7_method_6_code 44 = .ok (.iconst 1, 1) := by decide +kernel
theorem d_In_takeOut_45 : decode prog_7_method_6_code 45 = .ok (.iadd, 1) := by decide +kernel
theorem d_In_takeOut_46 : decode prog_7_method_6_code 46 = .ok (.iaload, 1) := by decide +kernel
theorem d_In_takeOut_47 : decode prog_7_method_6_code 47 = .ok (.iastore, 1) := by decide +kernel
theorem d_In_takeOut_48 : decode prog_7_method_6_code 48 = .ok (.aload_n 0, 1) := by decide +kernel
theorem d_In_takeOut_49 : decode prog_7_method_6_code 49 = .ok (.getfield 15, 3) := by decide +kernel
theorem d_In_takeOut_52 : decode prog_7_method_6_code 52 = .ok (.iload_n 2, 1) := by decide +kernel
theorem d_In_takeOut_53 : decode prog_7_method_6_code 53 = .ok (.aload_n 0, 1) := by decide +kernel
theorem d_In_takeOut_54 : decode prog_7_method_6_code 54 = .ok (.getfield 15, 3) := by decide +kernel
theorem d_In_takeOut_57 : decode prog_7_method_6_code 57 = .ok (.iload_n 2, 1) := by decide +kernel
theorem d_In_takeOut_58 : decode prog_7_method_6_code 58 = .ok (.iconst 1, 1) := by decide +kernel
theorem d_In_takeOut_59 : decode prog_7_method_6_code 59 = .ok (.iadd, 1) := by decide +kernel
theorem d_In_takeOut_60 : decode prog_7_method_6_code 60 = .ok (.iaload, 1) := by decide +kernel
theorem d_In_takeOut_61 : decode prog_7_method_6_code 61 = .ok (.iastore, 1) := by decide +kernel
theorem d_In_takeOut_62 : decode prog_7_method_6_code 62 = .ok (.aload_n 0, 1) := by decide +kernel
theorem d_In_takeOut_63 : decode prog_7_method_6_code 63 = .ok (.getfield 18, 3) := by decide +kernel
theorem d_In_takeOut_66 : decode prog_7_method_6_code 66 = .ok (.iload_n 2, 1) := by decide +kernel
theorem d_In_takeOut_67 : decode prog_7_method_6_code 67 = .ok (.aload_n 0, 1) := by decide +kernel
theorem d_In_takeOut_68 : decode prog_7_method_6_code 68 = .ok (.getfield 18, 3) := by decide +kernel
theorem d_In_takeOut_71 : decode prog_7_method_6_code 71 = .ok (.iload_n 2, 1) := by decide +kernel
theorem d_In_takeOut_72 : decode prog_7_method_6_code 72 = .ok (.iconst 1, 1) := by decide +kernel
theorem d_In_takeOut_73 : decode prog_7_method_6_code 73 = .ok (.iadd, 1) := by decide +kernel
theorem d_In_takeOut_74 : decode prog_7_method_6_code 74 = .ok (.iaload, 1) := by decide +kernel
theorem d_In_takeOut_75 : decode prog_7_method_6_code 75 = .ok (.iastore, 1) := by decide +kernel
theorem d_In_takeOut_76 : decode prog_7_method_6_code 76 = .ok (.aload_n 0, 1) := by decide +kernel
theorem d_In_takeOut_77 : decode prog_7_method_6_code 77 = .ok (.getfield 21, 3) := by decide +kernel
theorem d_In_takeOut_80 : decode prog_7_method_6_code 80 = .ok (.iload_n 2, 1) := by decide +kernel
theorem d_In_takeOut_81 : decode prog_7_method_6_code 81 = .ok (.aload_n 0, 1) := by decide +kernel
theorem d_In_takeOut_82 : decode prog_7_method_6_code 82 = .ok (.getfield 21, 3) := by decide +kernel
theorem d_In_takeOut_85 : decode prog_7_method_6_code 85 = .ok (.iload_n 2, 1) := by decide +kernel
theorem d_In_takeOut_86 : decode prog_7_method_6_code 86 = .ok (.iconst 1, 1) := by decide +kernel
theorem d_In_takeOut_87 : decode prog_7_method_6_code 87 = .ok (.iadd, 1) := by decide +kernel
theorem d_In_takeOut_88 : decode prog_7_method_6_code 88 = .ok (.iaload, 1) := by decide +kernel
theorem d_In_takeOut_89 : decode prog_7_method_6_code 89 = .ok (.iastore, 1) := by decide +kernel
theorem d_In_takeOut_90 : decode prog_7_method_6_code 90 = .ok (.iinc 2 1, 3) := by decide +kernel
theorem d_In_takeOut_93 : decode prog_7_method_6_code 93 = .ok (.goto (-67), 3) := by decide +kernel
theorem d_In_takeOut_96 : decode prog_7_method_6_code 96 = .ok (.iconst 1, 1) := by decide +kernel
theorem d_In_takeOut_97 : decode prog_7_method_6_code 97 = .ok (.ireturn, 1) := by decide +kernel
theorem d_TG_work_0 : decode prog_1_method_8_code 0 = .ok (.aload_n 0, 1) := by decide +kernel
theorem d_TG_work_1 : decode prog_1_method_8_code 1 = .ok (.getfield 67, 3) := by decide +kernel
theorem d_TG_work_4 : decode prog_1_method_8_code 4 = .ok (.getfield 127, 3) := by decide +kernel
theorem d_TG_work_7 : decode prog_1_method_8_code 7 = .ok (.ifCond .ne 5, 3) := by decide +kernel
theorem d_TG_work_10 : decode prog_1_method_8_code 10 = .ok (.iconst (-1), 1) := by decide +kernel
theorem d_TG_work_11 : decode prog_1_method_8_code 11 = .ok (.ireturn, 1) := by decide +kernel
theorem d_TG_work_12 : decode prog_1_method_8_code 12 = .ok (.aload_n 0, 1) := by decide +kernel
theorem d_TG_work_13 : decode prog_1_method_8_code 13 = .ok (.getfield 67, 3) := by decide +kernel
theorem d_TG_work_16 : decode prog_1_method_8_code 16 = .ok (.getfield 131, 3) := by decide +kernel
theorem d_TG_work_19 : decode prog_1_method_8_code 19 = .ok (.iconst 0, 1) := by decide +kernel
theorem d_TG_work_20 : decode prog_1_method_8_code 20 = .ok (.iaload, 1) := by decide +kernel
theorem d_TG_work_21 : decode prog_1_method_8_code 21 = .ok (.istore_n 1, 1) := by decide +kernel
theorem d_TG_work_22 : decode prog_1_method_8_code 22 = .ok (.aload_n 0, 1) := by decide +kernel
theorem d_TG_work_23 : decode prog_1_method_8_code 23 = .ok (.getfield 67, 3) := by decide +kernel
theorem d_TG_work_26 : decode prog_1_method_8_code 26 = .ok (.getfield 135, 3) := by decide +kernel
theorem d_TG_work_29 : decode prog_1_method_8_code 29 = .ok (.iconst 0, 1) := by decide +kernel
theorem d_TG_work_30 : decode prog_1_method_8_code 30 = .ok (.iaload, 1) := by decide +kernel
theorem d_TG_work_31 : decode prog_1_method_8_code 31 = .ok (.istore_n 2, 1) := by decide +kernel
theorem d_TG_work_32 : decode prog_1_method_8_code 32 = .ok (.aload_n 0, 1) := by decide +kernel
theorem d_TG_work_33 : decode prog_1_method_8_code 33 = .ok (.getfield 67, 3) := by decide +kernel
theorem d_TG_work_36 : decode prog_1_method_8_code 36 = .ok (.getfield 138, 3) := by decide +kernel
theorem d_TG_work_39 : decode prog_1_method_8_code 39 = .ok (.iconst 0, 1) := by decide +kernel
theorem d_TG_work_40 : decode prog_1_method_8_code 40 = .ok (.iaload, 1) := by decide +kernel
theorem d_TG_work_41 : decode prog_1_method_8_code 41 = .ok (.istore_n 3, 1) := by decide +kernel
theorem d_TG_work_42 : decode prog_1_method_8_code 42 = .ok (.aload_n 0, 1) := by decide +kernel
theorem d_TG_work_43 : decode prog_1_method_8_code 43 = .ok (.getfield 67, 3) := by decide +kernel
theorem d_TG_work_46 : decode prog_1_method_8_code 46 = .ok (.getfield 141, 3) := by decide +kernel
theorem d_TG_work_49 : decode prog_1_method_8_code 49 = .ok (.iconst 0, 1) := by decide +kernel
theorem d_TG_work_50 : decode prog_1_method_8_code 50 = .ok (.iaload, 1) := by decide +kernel
theorem d_TG_work_51 : decode prog_1_method_8_code 51 = .ok (.istore 4, 2) := by decide +kernel
theorem d_TG_work_53 : decode prog_1_method_8_code 53 = .ok (.aload_n 0, 1) := by decide +kernel
theorem d_TG_work_54 : decode prog_1_method_8_code 54 = .ok (.getfield 67, 3) := by decide +kernel
theorem d_TG_work_57 : decode prog_1_method_8_code 57 = .ok (.iconst 0, 1) := by decide +kernel
theorem d_TG_work_58 : decode prog_1_method_8_code 58 = .ok (.invokevirtual 124, 3) := by decide +kernel
theorem d_TG_work_61 : decode prog_1_method_8_code 61 = .ok (.pop, 1) := by decide +kernel
theorem d_TG_work_62 : decode prog_1_method_8_code 62 = .ok (.iload_n 2, 1) := by decide +kernel
theorem d_TG_work_63 : decode prog_1_method_8_code 63 = .ok (.ifCond .ne 13, 3) := by decide +kernel
theorem d_TG_work_66 : decode prog_1_method_8_code 66 = .ok (.aload_n 0, 1) := by decide +kernel
theorem d_TG_work_67 : decode prog_1_method_8_code 67 = .ok (.iload_n 1, 1) := by decide +kernel
theorem d_TG_work_68 : decode prog_1_method_8_code 68 = .ok (.iload_n 3, 1) := by decide +kernel
theorem d_TG_work_69 : decode prog_1_method_8_code 69 = .ok (.iload 4, 2) := by decide +kernel
theorem d_TG_work_71 : decode prog_1_method_8_code 71 = .ok (.invokevirtual 144, 3) := by decide +kernel
theorem d_TG_work_74 : decode prog_1_method_8_code 74 = .ok (.iconst 0, 1) := by decide +kernel
theorem d_TG_work_75 : decode prog_1_method_8_code 75 = .ok (.ireturn, 1) := by decide +kernel
theorem d_TG_work_76 : decode prog_1_method_8_code 76 = .ok (.aload_n 0, 1) := by decide +kernel
theorem d_TG_work_77 : decode prog_1_method_8_code 77 = .ok (.invokevirtual 148, 3) := by decide +kernel
theorem d_TG_work_80 : decode prog_1_method_8_code 80 = .ok (.aload_n 0, 1) := by decide +kernel
theorem d_TG_work_81 : decode prog_1_method_8_code 81 = .ok (.getfield 74, 3) := by decide +kernel
theorem d_TG_work_84 : decode prog_1_method_8_code 84 = .ok (.iload_n 2, 1) := by decide +kernel
theorem d_TG_work_85 : decode prog_1_method_8_code 85 = .ok (.aload_n 0, 1) := by decide +kernel
theorem d_TG_work_86 : decode prog_1_method_8_code 86 = .ok (.iload_n 1, 1) := by decide +kernel
theorem d_TG_work_87 : decode prog_1_method_8_code 87 = .ok (.iload_n 3, 1) := by decide +kernel
theorem d_TG_work_88 : decode prog_1_method_8_code 88 = .ok (.iload 4, 2) := by decide +kernel
theorem d_TG_work_90 : decode prog_1_method_8_code 90 = .ok (.invokevirtual 151, 3) := by decide +kernel
theorem d_TG_work_93 : decode prog_1_method_8_code 93 = .ok (.invokevirtual 154, 3) := by decide +kernel
theorem d_TG_work_96 : decode prog_1_method_8_code 96 = .ok (.iload_n 2, 1) := by decide +kernel
theorem d_TG_work_97 : decode prog_1_method_8_code 97 = .ok (.ireturn, 1) := by decide +kernel
theorem d_TG_change_0 : decode prog_1_method_17_code 0 = .ok (.iload_n 1, 1) := by decide +kernel
theorem d_TG_change_1 : decode prog_1_method_17_code 1 = .ok (.iconst 4, 1) := by decide +kernel
theorem d_TG_change_2 : decode prog_1_method_17_code 2 = .ok (.if_icmp .ne 15, 3) := by decide +kernel
theorem d_TG_change_5 : decode prog_1_method_17_code 5 = .ok (.aload_n 0, 1) := by decide +kernel
theorem d_TG_change_6 : decode prog_1_method_17_code 6 = .ok (.getfield 35, 3) := by decide +kernel
theorem d_TG_change_9 : decode prog_1_method_17_code 9 = .ok (.iload_n 2, 1) := by decide +kernel
theorem d_TG_change_10 : decode prog_1_method_17_code 10 = .ok (.iload_n 3, 1) := by decide +kernel
theorem d_TG_change_11 : decode prog_1_method_17_code 11 = .ok (.invokevirtual 184, 3) := by decide +kernel
theorem d_TG_change_14 : decode prog_1_method_17_code 14 = .ok (.goto 12, 3) := by decide +kernel
theorem d_TG_change_17 : decode prog_1_method_17_code 17 = .ok (.aload_n 0, 1) := by decide +kernel
theorem d_TG_change_18 : decode prog_1_method_17_code 18 = .ok (.getfield 35, 3) := by decide +kernel
theorem d_TG_change_21 : decode prog_1_method_17_code 21 = .ok (.iload_n 2, 1) := by decide +kernel
theorem d_TG_change_22 : decode prog_1_method_17_code 22 = .ok (.iload_n 3, 1) := by decide +kernel
theorem d_TG_change_23 : decode prog_1_method_17_code 23 = .ok (.invokevirtual 187, 3) := by decide +kernel
theorem d_TG_change_26 : decode prog_1_method_17_code 26 = .ok (.aload_n 0, 1) := by decide +kernel
theorem d_TG_change_27 : decode prog_1_method_17_code 27 = .ok (.iconst 1, 1) := by decide +kernel
theorem d_TG_change_28 : decode prog_1_method_17_code 28 = .ok (.putfield 78, 3) := by decide +kernel
theorem d_TG_change_31 : decode prog_1_method_17_code 31 = .ok (.return_, 1) := by decide +kernel
theorem d_TG_refresh_0 : decode prog_1_method_21_code 0 = .ok (.aload_n 0, 1) := by decide +kernel
theorem d_TG_refresh_1 : decode prog_1_method_21_code 1 = .ok (.getfield 78, 3) := by decide +kernel
theorem d_TG_refresh_4 : decode prog_1_method_21_code 4 = .ok (.ifCond .ne 4, 3) := by decide +kernel
theorem d_TG_refresh_7 : decode prog_1_method_21_code 7 = .ok (.return_, 1) := by decide +kernel
theorem d_TG_refresh_8 : decode prog_1_method_21_code 8 = .ok (.aload_n 0, 1) := by decide +kernel
theorem d_TG_refresh_9 : decode prog_1_method_21_code 9 = .ok (.getfield 51, 3) := by decide +kernel
theorem d_TG_refresh_12 : decode prog_1_method_21_code 12 = .ok (.invokevirtual 219, 3) := by decide +kernel
theorem d_TG_refresh_15 : decode prog_1_method_21_code 15 = .ok (.aload_n 0, 1) := by decide +kernel
theorem d_TG_refresh_16 : decode prog_1_method_21_code 16 = .ok (.getfield 44, 3) := by decide +kernel
theorem d_TG_refresh_19 : decode prog_1_method_21_code 19 = .ok (.aload_n 0, 1) := by decide +kernel
theorem d_TG_refresh_20 : decode prog_1_method_21_code 20 = .ok (.getfield 51, 3) := by decide +kernel
theorem d_TG_refresh_23 : decode prog_1_method_21_code 23 = .ok (.invokevirtual 220, 3) := by decide +kernel
theorem d_TG_refresh_26 : decode prog_1_method_21_code 26 = .ok (.aload_n 0, 1) := by decide +kernel
theorem d_TG_refresh_27 : decode prog_1_method_21_code 27 = .ok (.getfield 51, 3) := by decide +kernel
theorem d_TG_refresh_30 : decode prog_1_method_21_code 30 = .ok (.aload_n 0, 1) := by decide +kernel
theorem d_TG_refresh_31 : decode prog_1_method_21_code 31 = .ok (.getfield 44, 3) := by decide +kernel
theorem d_TG_refresh_34 : decode prog_1_method_21_code 34 = .ok (.aload_n 0, 1) := by decide +kernel
theorem d_TG_refresh_35 : decode prog_1_method_21_code 35 = .ok (.getfield 28, 3) := by decide +kernel
theorem d_TG_refresh_38 : decode prog_1_method_21_code 38 = .ok (.invokevirtual 224, 3) := by decide +kernel
theorem d_TG_refresh_41 : decode prog_1_method_21_code 41 = .ok (.aload_n 0, 1) := by decide +kernel
theorem d_TG_refresh_42 : decode prog_1_method_21_code 42 = .ok (.iconst 0, 1) := by decide +kernel
theorem d_TG_refresh_43 : decode prog_1_method_21_code 43 = .ok (.putfield 78, 3) := by decide +kernel
theorem d_TG_refresh_46 : decode prog_1_method_21_code 46 = .ok (.return_, 1) := by decide +kernel
theorem d_Fa_clear_0 : decode prog_5_method_2_code 0 = .ok (.aload_n 0, 1) := by decide +kernel
theorem d_Fa_clear_1 : decode prog_5_method_2_code 1 = .ok (.iconst 0, 1) := by decide +kernel
theorem d_Fa_clear_2 : decode prog_5_method_2_code 2 = .ok (.putfield 15, 3) := by decide +kernel
theorem d_Fa_clear_5 : decode prog_5_method_2_code 5 = .ok (.return_, 1) := by decide +kernel
theorem d_El_open_0 : decode prog_4_method_2_code 0 = .ok (.aload_n 0, 1) := by decide +kernel
theorem d_El_open_1 : decode prog_4_method_2_code 1 = .ok (.iload_n 1, 1) := by decide +kernel
theorem d_El_open_2 : decode prog_4_method_2_code 2 = .ok (.putfield 9, 3) := by decide +kernel
theorem d_El_open_5 : decode prog_4_method_2_code 5 = .ok (.aload_n 0, 1) := by decide +kernel
theorem d_El_open_6 : decode prog_4_method_2_code 6 = .ok (.iload_n 2, 1) := by decide +kernel
theorem d_El_open_7 : decode prog_4_method_2_code 7 = .ok (.putfield 15, 3) := by decide +kernel
theorem d_El_open_10 : decode prog_4_method_2_code 10 = .ok (.aload_n 0, 1) := by decide +kernel
theorem d_El_open_11 : decode prog_4_method_2_code 11 = .ok (.iload_n 3, 1) := by decide +kernel
theorem d_El_open_12 : decode prog_4_method_2_code 12 = .ok (.putfield 18, 3) := by decide +kernel
theorem d_El_open_15 : decode prog_4_method_2_code 15 = .ok (.aload_n 0, 1) := by decide +kernel
theorem d_El_open_16 : decode prog_4_method_2_code 16 = .ok (.iload 4, 2) := by decide +kernel
theorem d_El_open_18 : decode prog_4_method_2_code 18 = .ok (.putfield 21, 3) := by decide +kernel
theorem d_El_open_21 : decode prog_4_method_2_code 21 = .ok (.aload_n 0, 1) := by decide +kernel
theorem d_El_open_22 : decode prog_4_method_2_code 22 = .ok (.iload 5, 2) := by decide +kernel
theorem d_El_open_24 : decode prog_4_method_2_code 24 = .ok (.putfield 24, 3) := by decide +kernel
theorem d_El_open_27 : decode prog_4_method_2_code 27 = .ok (.aload_n 0, 1) := by decide +kernel
theorem d_El_open_28 : decode prog_4_method_2_code 28 = .ok (.iconst 0, 1) := by decide +kernel
theorem d_El_open_29 : decode prog_4_method_2_code 29 = .ok (.putfield 27, 3) := by decide +kernel
theorem d_El_open_32 : decode prog_4_method_2_code 32 = .ok (.aload_n 0, 1) := by decide +kernel
theorem d_El_open_33 : decode prog_4_method_2_code 33 = .ok (.iconst (-1), 1) := by decide +kernel
theorem d_El_open_34 : decode prog_4_method_2_code 34 = .ok (.putfield 30, 3) := by decide +kernel
theorem d_El_open_37 : decode prog_4_method_2_code 37 = .ok (.return_, 1) := by decide +kernel
theorem d_Fa_add_0 : decode prog_5_method_3_code 0 = .ok (.aload_n 0, 1) := by decide +kernel
theorem d_Fa_add_1 : decode prog_5_method_3_code 1 = .ok (.getfield 15, 3) := by decide +kernel
theorem d_Fa_add_4 : decode prog_5_method_3_code 4 = .ok (.sipush 201, 3) := by decide +kernel
theorem d_Fa_add_7 : decode prog_5_method_3_code 7 = .ok (.if_icmp .lt 4, 3) := by decide +kernel
theorem d_Fa_add_10 : decode prog_5_method_3_code 10 = .ok (.return_, 1) := by decide +kernel
theorem d_Fa_add_11 : decode prog_5_method_3_code 11 = .ok (.iload_n 2, 1) := by decide +kernel
theorem d_Fa_add_12 : decode prog_5_method_3_code 12 = .ok (.bipush 8, 2) := by decide +kernel
theorem d_Fa_add_14 : decode prog_5_method_3_code 14 = .ok (.imul, 1) := by decide +kernel
theorem d_Fa_add_15 : decode prog_5_method_3_code 15 = .ok (.iload_n 1, 1) := by decide +kernel
theorem d_Fa_add_16 : decode prog_5_method_3_code 16 = .ok (.iadd, 1) := by decide +kernel
theorem d_Fa_add_17 : decode prog_5_method_3_code 17 = .ok (.istore_n 3, 1) := by decide +kernel
theorem d_Fa_add_18 : decode prog_5_method_3_code 18 = .ok (.aload_n 0, 1) := by decide +kernel
theorem d_Fa_add_19 : decode prog_5_method_3_code 19 = .ok (.getfield 15, 3) := by decide +kernel
theorem d_Fa_add_22 : decode prog_5_method_3_code 22 = .ok (.istore 4, 2) := by decide +kernel
theorem d_Fa_add_24 : decode prog_5_method_3_code 24 = .ok (.iload 4, 2) := by decide +kernel
theorem d_Fa_add_26 : decode prog_5_method_3_code 26 = .ok (.ifCond .le 38, 3) := by decide +kernel
theorem d_Fa_add_29 : decode prog_5_method_3_code 29 = .ok (.aload_n 0, 1) := by decide +kernel
theorem d_Fa_add_30 : decode prog_5_method_3_code 30 = .ok (.getfield 9, 3) := by decide +kernel
theorem d_Fa_add_33 : decode prog_5_method_3_code 33 = .ok (.iload 4, 2) := by decide +kernel
theorem d_Fa_add_35 : decode prog_5_method_3_code 35 = .ok (.iconst 1, 1) := by decide +kernel
theorem d_Fa_add_36 : decode prog_5_method_3_code 36 = .ok (.isub, 1) := by decide +kernel
theorem d_Fa_add_37 : decode prog_5_method_3_code 37 = .ok (.iaload, 1) := by decide +kernel
theorem d_Fa_add_38 : decode prog_5_method_3_code 38 = .ok (.iload_n 3, 1) := by decide +kernel
theorem d_Fa_add_39 : decode prog_5_method_3_code 39 = .ok (.if_icmp .le 25, 3) := by decide +kernel
theorem d_Fa_add_42 : decode prog_5_method_3_code 42 = .ok (.aload_n 0, 1) := by decide +kernel
theorem d_Fa_add_43 : decode prog_5_method_3_code 43 = .ok (.getfield 9, 3) := by decide +kernel
theorem d_Fa_add_46 : decode prog_5_method_3_code 46 = .ok (.iload 4, 2) := by decide +kernel
theorem d_Fa_add_48 : decode prog_5_method_3_code 48 = .ok (.aload_n 0, 1) := by decide +kernel
theorem d_Fa_add_49 : decode prog_5_method_3_code 49 = .ok (.getfield 9, 3) := by decide +kernel
theorem d_Fa_add_52 : decode prog_5_method_3_code 52 = .ok (.iload 4, 2) := by decide +kernel
theorem d_Fa_add_54 : decode prog_5_method_3_code 54 = .ok (.iconst 1, 1) := by decide +kernel
theorem d_Fa_add_55 : decode prog_5_method_3_code 55 = .ok (.isub, 1) := by decide +kernel
theorem d_Fa_add_56 : decode prog_5_method_3_code 56 = .ok (.iaload, 1) := by decide +kernel
theorem d_Fa_add_57 : decode prog_5_method_3_code 57 = .ok (.iastore, 1) := by decide +kernel
theorem d_Fa_add_58 : decode prog_5_method_3_code 58 = .ok (.iinc 4 (-1), 3) := by decide +kernel
theorem d_Fa_add_61 : decode prog_5_method_3_code 61 = .ok (.goto (-37), 3) := by decide +kernel
theorem d_Fa_add_64 : decode prog_5_method_3_code 64 = .ok (.aload_n 0, 1) := by decide +kernel
theorem d_Fa_add_65 : decode prog_5_method_3_code 65 = .ok (.getfield 9, 3) := by decide +kernel
theorem d_Fa_add_68 : decode prog_5_method_3_code 68 = .ok (.iload 4, 2) := by decide +kernel
theorem d_Fa_add_70 : decode prog_5_method_3_code 70 = .ok (.iload_n 3, 1) := by decide +kernel
theorem d_Fa_add_71 : decode prog_5_method_3_code 71 = .ok (.iastore, 1) := by decide +kernel
theorem d_Fa_add_72 : decode prog_5_method_3_code 72 = .ok (.aload_n 0, 1) := by decide +kernel
theorem d_Fa_add_73 : decode prog_5_method_3_code 73 = .ok (.dup, 1) := by decide +kernel
theorem d_Fa_add_74 : decode prog_5_method_3_code 74 = .ok (.getfield 15, 3) := by decide +kernel
theorem d_Fa_add_77 : decode prog_5_method_3_code 77 = .ok (.iconst 1, 1) := by decide +kernel
theorem d_Fa_add_78 : decode prog_5_method_3_code 78 = .ok (.iadd, 1) := by decide +kernel
theorem d_Fa_add_79 : decode prog_5_method_3_code 79 = .ok (.putfield 15, 3) := by decide +kernel
theorem d_Fa_add_82 : decode prog_5_method_3_code 82 = .ok (.return_, 1) := by decide +kernel
theorem d_El_close_0 : decode prog_4_method_3_code 0 = .ok (.aload_n 0, 1) := by decide +kernel
theorem d_El_close_1 : decode prog_4_method_3_code 1 = .ok (.iload_n 1, 1) := by decide +kernel
theorem d_El_close_2 : decode prog_4_method_3_code 2 = .ok (.putfield 33, 3) := by decide +kernel
theorem d_El_close_5 : decode prog_4_method_3_code 5 = .ok (.aload_n 0, 1) := by decide +kernel
theorem d_El_close_6 : decode prog_4_method_3_code 6 = .ok (.iload_n 2, 1) := by decide +kernel
theorem d_El_close_7 : decode prog_4_method_3_code 7 = .ok (.putfield 36, 3) := by decide +kernel
theorem d_El_close_10 : decode prog_4_method_3_code 10 = .ok (.aload_n 0, 1) := by decide +kernel
theorem d_El_close_11 : decode prog_4_method_3_code 11 = .ok (.iload_n 3, 1) := by decide +kernel
theorem d_El_close_12 : decode prog_4_method_3_code 12 = .ok (.putfield 39, 3) := by decide +kernel
theorem d_El_close_15 : decode prog_4_method_3_code 15 = .ok (.return_, 1) := by decide +kernel
theorem d_El_takeCharacter_0 : decode prog_4_method_4_code 0 = .ok (.iload_n 1, 1) := by decide +kernel
theorem d_El_takeCharacter_1 : decode prog_4_method_4_code 1 = .ok (.bipush 32, 2) := by decide +kernel
theorem d_El_takeCharacter_3 : decode prog_4_method_4_code 3 = .ok (.if_icmp .eq 16, 3) := by decide +kernel
theorem d_El_takeCharacter_6 : decode prog_4_method_4_code 6 = .ok (.aload_n 0, 1) := by decide +kernel
theorem d_El_takeCharacter_7 : decode prog_4_method_4_code 7 = .ok (.getfield 30, 3) := by decide +kernel
theorem d_El_takeCharacter_10 : decode prog_4_method_4_code 10 = .ok (.iconst (-1), 1) := by decide +kernel
theorem d_El_takeCharacter_11 : decode prog_4_method_4_code 11 = .ok (.if_icmp .ne 8, 3) := by decide +kernel
theorem d_El_takeCharacter_14 : decode prog_4_method_4_code 14 = .ok (.aload_n 0, 1) := by decide +kernel
theorem d_El_takeCharacter_15 : decode prog_4_method_4_code 15 = .ok (.iload_n 2, 1) := by decide +kernel
theorem d_El_takeCharacter_16 : decode prog_4_method_4_code 16 = .ok (.putfield 30, 3) := by decide +kernel
theorem d_El_takeCharacter_19 : decode prog_4_method_4_code 19 = .ok (.return_, 1) := by decide +kernel
theorem d_Fa_judge_0 : decode prog_5_method_4_code 0 = .ok (.iconst 0, 1) := by decide +kernel
theorem d_Fa_judge_1 : decode prog_5_method_4_code 1 = .ok (.istore_n 3, 1) := by decide +kernel
theorem d_Fa_judge_2 : decode prog_5_method_4_code 2 = .ok (.iload_n 3, 1) := by decide +kernel
theorem d_Fa_judge_3 : decode prog_5_method_4_code 3 = .ok (.aload_n 1, 1) := by decide +kernel
theorem d_Fa_judge_4 : decode prog_5_method_4_code 4 = .ok (.getfield 19, 3) := by decide +kernel
theorem d_Fa_judge_7 : decode prog_5_method_4_code 7 = .ok (.if_icmp .gt 128, 3) := by decide +kernel
theorem d_Fa_judge_10 : decode prog_5_method_4_code 10 = .ok (.aload_n 1, 1) := by decide +kernel
theorem d_Fa_judge_11 : decode prog_5_method_4_code 11 = .ok (.getfield 24, 3) := by decide +kernel
theorem d_Fa_judge_14 : decode prog_5_method_4_code 14 = .ok (.iload_n 3, 1) := by decide +kernel
theorem d_Fa_judge_15 : decode prog_5_method_4_code 15 = .ok (.aaload, 1) := by decide +kernel
theorem d_Fa_judge_16 : decode prog_5_method_4_code 16 = .ok (.astore 4, 2) := by decide +kernel
theorem d_Fa_judge_18 : decode prog_5_method_4_code 18 = .ok (.aload_n 2, 1) := by decide +kernel
theorem d_Fa_judge_19 : decode prog_5_method_4_code 19 = .ok (.aload 4, 2) := by decide +kernel
theorem d_Fa_judge_21 : decode prog_5_method_4_code 21 = .ok (.getfield 28, 3) := by decide +kernel
theorem d_Fa_judge_24 : decode prog_5_method_4_code 24 = .ok (.invokevirtual 33, 3) := by decide +kernel
theorem d_Fa_judge_27 : decode prog_5_method_4_code 27 = .ok (.astore 5, 2) := by decide +kernel
theorem d_Fa_judge_29 : decode prog_5_method_4_code 29 = .ok (.iload_n 3, 1) := by decide +kernel
theorem d_Fa_judge_30 : decode prog_5_method_4_code 30 = .ok (.ifCond .eq 21, 3) := by decide +kernel
theorem d_Fa_judge_33 : decode prog_5_method_4_code 33 = .ok (.aload 4, 2) := by decide +kernel
theorem d_Fa_judge_35 : decode prog_5_method_4_code 35 = .ok (.getfield 39, 3) := by decide +kernel
theorem d_Fa_judge_38 : decode prog_5_method_4_code 38 = .ok (.ifCond .ne 13, 3) := by decide +kernel
theorem d_Fa_judge_41 : decode prog_5_method_4_code 41 = .ok (.aload_n 0, 1) := by decide +kernel
theorem d_Fa_judge_42 : decode prog_5_method_4_code 42 = .ok (.iconst 4, 1) := by decide +kernel
theorem d_Fa_judge_43 : decode prog_5_method_4_code 43 = .ok (.aload 4, 2) := by decide +kernel
theorem d_Fa_judge_45 : decode prog_5_method_4_code 45 = .ok (.getfield 42, 3) := by decide +kernel
theorem d_Fa_judge_48 : decode prog_5_method_4_code 48 = .ok (.invokevirtual 45, 3) := by decide +kernel
theorem d_Fa_judge_51 : decode prog_5_method_4_code 51 = .ok (.iload_n 3, 1) := by decide +kernel
theorem d_Fa_judge_52 : decode prog_5_method_4_code 52 = .ok (.ifCond .eq 21, 3) := by decide +kernel
theorem d_Fa_judge_55 : decode prog_5_method_4_code 55 = .ok (.aload 5, 2) := by decide +kernel
theorem d_Fa_judge_57 : decode prog_5_method_4_code 57 = .ok (.getfield 49, 3) := by decide +kernel
theorem d_Fa_judge_60 : decode prog_5_method_4_code 60 = .ok (.ifCond .ne 13, 3) := by decide +kernel
theorem d_Fa_judge_63 : decode prog_5_method_4_code 63 = .ok (.aload_n 0, 1) := by decide +kernel
theorem d_Fa_judge_64 : decode prog_5_method_4_code 64 = .ok (.iconst 5, 1) := by decide +kernel
theorem d_Fa_judge_65 : decode prog_5_method_4_code 65 = .ok (.aload 4, 2) := by decide +kernel
theorem d_Fa_judge_67 : decode prog_5_method_4_code 67 = .ok (.getfield 42, 3) := by decide +kernel
theorem d_Fa_judge_70 : decode prog_5_method_4_code 70 = .ok (.invokevirtual 45, 3) := by decide +kernel
theorem d_Fa_judge_73 : decode prog_5_method_4_code 73 = .ok (.aload 5, 2) := by decide +kernel
theorem d_Fa_judge_75 : decode prog_5_method_4_code 75 = .ok (.invokevirtual 55, 3) := by decide +kernel
theorem d_Fa_judge_78 : decode prog_5_method_4_code 78 = .ok (.ifCond .eq 23, 3) := by decide +kernel
theorem d_Fa_judge_81 : decode prog_5_method_4_code 81 = .ok (.aload 4, 2) := by decide +kernel
theorem d_Fa_judge_83 : decode prog_5_method_4_code 83 = .ok (.getfield 59, 3) := by decide +kernel
theorem d_Fa_judge_86 : decode prog_5_method_4_code 86 = .ok (.iconst (-1), 1) := by decide +kernel
theorem d_Fa_judge_87 : decode prog_5_method_4_code 87 = .ok (.if_icmp .eq 14, 3) := by decide +kernel
theorem d_Fa_judge_90 : decode prog_5_method_4_code 90 = .ok (.aload_n 0, 1) := by decide +kernel
theorem d_Fa_judge_91 : decode prog_5_method_4_code 91 = .ok (.bipush 6, 2) := by decide +kernel
theorem d_Fa_judge_93 : decode prog_5_method_4_code 93 = .ok (.aload 4, 2) := by decide +kernel
theorem d_Fa_judge_95 : decode prog_5_method_4_code 95 = .ok (.getfield 59, 3) := by decide +kernel
theorem d_Fa_judge_98 : decode prog_5_method_4_code 98 = .ok (.invokevirtual 45, 3) := by decide +kernel
theorem d_Fa_judge_101 : decode prog_5_method_4_code 101 = .ok (.aload 5, 2) := by decide +kernel
theorem d_Fa_judge_103 : decode prog_5_method_4_code 103 = .ok (.getfield 49, 3) := by decide +kernel
theorem d_Fa_judge_106 : decode prog_5_method_4_code 106 = .ok (.ifCond .eq 23, 3) := by decide +kernel
theorem d_Fa_judge_109 : decode prog_5_method_4_code 109 = .ok (.aload_n 2, 1) := by decide +kernel
theorem d_Fa_judge_110 : decode prog_5_method_4_code 110 = .ok (.aload_n 1, 1) := by decide +kernel
theorem d_Fa_judge_111 : decode prog_5_method_4_code 111 = .ok (.iload_n 3, 1) := by decide +kernel
theorem d_Fa_judge_112 : decode prog_5_method_4_code 112 = .ok (.invokevirtual 62, 3) := by decide +kernel
theorem d_Fa_judge_115 : decode prog_5_method_4_code 115 = .ok (.ifCond .ne 14, 3) := by decide +kernel
theorem d_Fa_judge_118 : decode prog_5_method_4_code 118 = .ok (.aload_n 0, 1) := by decide +kernel
theorem d_Fa_judge_119 : decode prog_5_method_4_code 119 = .ok (.bipush 7, 2) := by decide +kernel
theorem d_Fa_judge_121 : decode prog_5_method_4_code 121 = .ok (.aload 4, 2) := by decide +kernel
theorem d_Fa_judge_123 : decode prog_5_method_4_code 123 = .ok (.getfield 42, 3) := by decide +kernel
theorem d_Fa_judge_126 : decode prog_5_method_4_code 126 = .ok (.invokevirtual 45, 3) := by decide +kernel
theorem d_Fa_judge_129 : decode prog_5_method_4_code 129 = .ok (.iinc 3 1, 3) := by decide +kernel
theorem d_Fa_judge_132 : decode prog_5_method_4_code 132 = .ok (.goto (-130), 3) := by decide +kernel
theorem d_Fa_judge_135 : decode prog_5_method_4_code 135 = .ok (.return_, 1) := by decide +kernel
theorem d_TG_reply_0 : decode prog_1_method_18_code 0 = .ok (.iload_n 1, 1) := by decide +kernel
theorem d_TG_reply_1 : decode prog_1_method_18_code 1 = .ok (.tableswitch 48 0 2 #[27, 33, 41], 27) := by decide +kernel
theorem d_TG_reply_28 : decode prog_1_method_18_code 28 = .ok (.aload_n 0, 1) := by decide +kernel
theorem d_TG_reply_29 : decode prog_1_method_18_code 29 = .ok (.iload_n 2, 1) := by decide +kernel
theorem d_TG_reply_30 : decode prog_1_method_18_code 30 = .ok (.invokevirtual 189, 3) := by decide +kernel
theorem d_TG_reply_33 : decode prog_1_method_18_code 33 = .ok (.ireturn, 1) := by decide +kernel
theorem d_TG_reply_34 : decode prog_1_method_18_code 34 = .ok (.aload_n 0, 1) := by decide +kernel
theorem d_TG_reply_35 : decode prog_1_method_18_code 35 = .ok (.getfield 51, 3) := by decide +kernel
theorem d_TG_reply_38 : decode prog_1_method_18_code 38 = .ok (.getfield 192, 3) := by decide +kernel
theorem d_TG_reply_41 : decode prog_1_method_18_code 41 = .ok (.ireturn, 1) := by decide +kernel
theorem d_TG_reply_42 : decode prog_1_method_18_code 42 = .ok (.aload_n 0, 1) := by decide +kernel
theorem d_TG_reply_43 : decode prog_1_method_18_code 43 = .ok (.iload_n 2, 1) := by decide +kernel
theorem d_TG_reply_44 : decode prog_1_method_18_code 44 = .ok (.iload_n 3, 1) := by decide +kernel
theorem d_TG_reply_45 : decode prog_1_method_18_code 45 = .ok (.invokevirtual 193, 3) := by decide +kernel
theorem d_TG_reply_48 : decode prog_1_method_18_code 48 = .ok (.ireturn, 1) := by decide +kernel
theorem d_TG_reply_49 : decode prog_1_method_18_code 49 = .ok (.aload_n 0, 1) := by decide +kernel
theorem d_TG_reply_50 : decode prog_1_method_18_code 50 = .ok (.getfield 51, 3) := by decide +kernel
theorem d_TG_reply_53 : decode prog_1_method_18_code 53 = .ok (.invokevirtual 196, 3) := by decide +kernel
theorem d_TG_reply_56 : decode prog_1_method_18_code 56 = .ok (.ifCond .eq 7, 3) := by decide +kernel
theorem d_TG_reply_59 : decode prog_1_method_18_code 59 = .ok (.iconst (-1), 1) := by decide +kernel
theorem d_TG_reply_60 : decode prog_1_method_18_code 60 = .ok (.goto 10, 3) := by decide +kernel
theorem d_TG_reply_63 : decode prog_1_method_18_code 63 = .ok (.aload_n 0, 1) := by decide +kernel
theorem d_TG_reply_64 : decode prog_1_method_18_code 64 = .ok (.getfield 60, 3) := by decide +kernel
theorem d_TG_reply_67 : decode prog_1_method_18_code 67 = .ok (.invokevirtual 199, 3) := by decide +kernel
theorem d_TG_reply_70 : decode prog_1_method_18_code 70 = .ok (.ireturn, 1) := by decide +kernel
theorem d_TG_offerAt_0 : decode prog_1_method_19_code 0 = .ok (.iload_n 1, 1) := by decide +kernel
theorem d_TG_offerAt_1 : decode prog_1_method_19_code 1 = .ok (.ifCond .lt 25, 3) := by decide +kernel
theorem d_TG_offerAt_4 : decode prog_1_method_19_code 4 = .ok (.iload_n 1, 1) := by decide +kernel
theorem d_TG_offerAt_5 : decode prog_1_method_19_code 5 = .ok (.aload_n 0, 1) := by decide +kernel
theorem d_TG_offerAt_6 : decode prog_1_method_19_code 6 = .ok (.getfield 35, 3) := by decide +kernel
theorem d_TG_offerAt_9 : decode prog_1_method_19_code 9 = .ok (.getfield 161, 3) := by decide +kernel
theorem d_TG_offerAt_12 : decode prog_1_method_19_code 12 = .ok (.if_icmp .gt 14, 3) := by decide +kernel
theorem d_TG_offerAt_15 : decode prog_1_method_19_code 15 = .ok (.aload_n 0, 1) := by decide +kernel
theorem d_TG_offerAt_16 : decode prog_1_method_19_code 16 = .ok (.getfield 44, 3) := by decide +kernel
theorem d_TG_offerAt_19 : decode prog_1_method_19_code 19 = .ok (.iload_n 1, 1) := by decide +kernel
theorem d_TG_offerAt_20 : decode prog_1_method_19_code 20 = .ok (.invokevirtual 203, 3) := by decide +kernel
theorem d_TG_offerAt_23 : decode prog_1_method_19_code 23 = .ok (.ifCond .eq 5, 3) := by decide +kernel
theorem d_TG_offerAt_26 : decode prog_1_method_19_code 26 = .ok (.iconst (-1), 1) := by decide +kernel
theorem d_TG_offerAt_27 : decode prog_1_method_19_code 27 = .ok (.ireturn, 1) := by decide +kernel
theorem d_TG_offerAt_28 : decode prog_1_method_19_code 28 = .ok (.aload_n 0, 1) := by decide +kernel
theorem d_TG_offerAt_29 : decode prog_1_method_19_code 29 = .ok (.getfield 28, 3) := by decide +kernel
theorem d_TG_offerAt_32 : decode prog_1_method_19_code 32 = .ok (.aload_n 0, 1) := by decide +kernel
theorem d_TG_offerAt_33 : decode prog_1_method_19_code 33 = .ok (.getfield 44, 3) := by decide +kernel
theorem d_TG_offerAt_36 : decode prog_1_method_19_code 36 = .ok (.aload_n 0, 1) := by decide +kernel
theorem d_TG_offerAt_37 : decode prog_1_method_19_code 37 = .ok (.getfield 44, 3) := by decide +kernel
theorem d_TG_offerAt_40 : decode prog_1_method_19_code 40 = .ok (.iload_n 1, 1) := by decide +kernel
theorem d_TG_offerAt_41 : decode prog_1_method_19_code 41 = .ok (.invokevirtual 206, 3) := by decide +kernel
theorem d_TG_offerAt_44 : decode prog_1_method_19_code 44 = .ok (.iload_n 1, 1) := by decide +kernel
theorem d_TG_offerAt_45 : decode prog_1_method_19_code 45 = .ok (.invokevirtual 209, 3) := by decide +kernel
theorem d_TG_offerAt_48 : decode prog_1_method_19_code 48 = .ok (.ireturn, 1) := by decide +kernel
theorem d_El_hasInside_0 : decode prog_4_method_5_code 0 = .ok (.aload_n 0, 1) := by decide +kernel
theorem d_El_hasInside_1 : decode prog_4_method_5_code 1 = .ok (.getfield 33, 3) := by decide +kernel
theorem d_El_hasInside_4 : decode prog_4_method_5_code 4 = .ok (.iconst 2, 1) := by decide +kernel
theorem d_El_hasInside_5 : decode prog_4_method_5_code 5 = .ok (.if_icmp .eq 23, 3) := by decide +kernel
theorem d_El_hasInside_8 : decode prog_4_method_5_code 8 = .ok (.aload_n 0, 1) := by decide +kernel
theorem d_El_hasInside_9 : decode prog_4_method_5_code 9 = .ok (.getfield 24, 3) := by decide +kernel
theorem d_El_hasInside_12 : decode prog_4_method_5_code 12 = .ok (.iload_n 1, 1) := by decide +kernel
theorem d_El_hasInside_13 : decode prog_4_method_5_code 13 = .ok (.if_icmp .gt 15, 3) := by decide +kernel
theorem d_El_hasInside_16 : decode prog_4_method_5_code 16 = .ok (.iload_n 1, 1) := by decide +kernel
theorem d_El_hasInside_17 : decode prog_4_method_5_code 17 = .ok (.aload_n 0, 1) := by decide +kernel
theorem d_El_hasInside_18 : decode prog_4_method_5_code 18 = .ok (.getfield 36, 3) := by decide +kernel
theorem d_El_hasInside_21 : decode prog_4_method_5_code 21 = .ok (.if_icmp .gt 7, 3) := by decide +kernel
theorem d_El_hasInside_24 : decode prog_4_method_5_code 24 = .ok (.iconst 1, 1) := by decide +kernel
theorem d_El_hasInside_25 : decode prog_4_method_5_code 25 = .ok (.goto 4, 3) := by decide +kernel
theorem d_El_hasInside_28 : decode prog_4_method_5_code 28 = .ok (.iconst 0, 1) := by decide +kernel
theorem d_El_hasInside_29 : decode prog_4_method_5_code 29 = .ok (.ireturn, 1) := by decide +kernel
theorem d_TG_renameAt_0 : decode prog_1_method_20_code 0 = .ok (.aload_n 0, 1) := by decide +kernel
theorem d_TG_renameAt_1 : decode prog_1_method_20_code 1 = .ok (.getfield 44, 3) := by decide +kernel
theorem d_TG_renameAt_4 : decode prog_1_method_20_code 4 = .ok (.iload_n 1, 1) := by decide +kernel
theorem d_TG_renameAt_5 : decode prog_1_method_20_code 5 = .ok (.invokevirtual 213, 3) := by decide +kernel
theorem d_TG_renameAt_8 : decode prog_1_method_20_code 8 = .ok (.istore_n 3, 1) := by decide +kernel
theorem d_TG_renameAt_9 : decode prog_1_method_20_code 9 = .ok (.iload_n 3, 1) := by decide +kernel
theorem d_TG_renameAt_10 : decode prog_1_method_20_code 10 = .ok (.iconst (-1), 1) := by decide +kernel
theorem d_TG_renameAt_11 : decode prog_1_method_20_code 11 = .ok (.if_icmp .eq 10, 3) := by decide +kernel
theorem d_TG_renameAt_14 : decode prog_1_method_20_code 14 = .ok (.iload_n 2, 1) := by decide +kernel
theorem d_TG_renameAt_15 : decode prog_1_method_20_code 15 = .ok (.invokestatic 86, 3) := by decide +kernel
theorem d_TG_renameAt_18 : decode prog_1_method_20_code 18 = .ok (.ifCond .ne 5, 3) := by decide +kernel
theorem d_TG_renameAt_21 : decode prog_1_method_20_code 21 = .ok (.iconst (-1), 1) := by decide +kernel
theorem d_TG_renameAt_22 : decode prog_1_method_20_code 22 = .ok (.ireturn, 1) := by decide +kernel
theorem d_TG_renameAt_23 : decode prog_1_method_20_code 23 = .ok (.aload_n 0, 1) := by decide +kernel
theorem d_TG_renameAt_24 : decode prog_1_method_20_code 24 = .ok (.iconst 1, 1) := by decide +kernel
theorem d_TG_renameAt_25 : decode prog_1_method_20_code 25 = .ok (.putfield 78, 3) := by decide +kernel
theorem d_TG_renameAt_28 : decode prog_1_method_20_code 28 = .ok (.aload_n 0, 1) := by decide +kernel
theorem d_TG_renameAt_29 : decode prog_1_method_20_code 29 = .ok (.getfield 44, 3) := by decide +kernel
theorem d_TG_renameAt_32 : decode prog_1_method_20_code 32 = .ok (.iload_n 3, 1) := by decide +kernel
theorem d_TG_renameAt_33 : decode prog_1_method_20_code 33 = .ok (.iload_n 2, 1) := by decide +kernel
theorem d_TG_renameAt_34 : decode prog_1_method_20_code 34 = .ok (.invokevirtual 216, 3) := by decide +kernel
theorem d_TG_renameAt_37 : decode prog_1_method_20_code 37 = .ok (.ireturn, 1) := by decide +kernel
theorem d_Fa_preventForm_0 : decode prog_5_method_5_code 0 = .ok (.iconst 0, 1) := by decide +kernel
theorem d_Fa_preventForm_1 : decode prog_5_method_5_code 1 = .ok (.istore_n 1, 1) := by decide +kernel
theorem d_Fa_preventForm_2 : decode prog_5_method_5_code 2 = .ok (.iload_n 1, 1) := by decide +kernel
theorem d_Fa_preventForm_3 : decode prog_5_method_5_code 3 = .ok (.aload_n 0, 1) := by decide +kernel
theorem d_Fa_preventForm_4 : decode prog_5_method_5_code 4 = .ok (.getfield 15, 3) := by decide +kernel
theorem d_Fa_preventForm_7 : decode prog_5_method_5_code 7 = .ok (.if_icmp .ge 24, 3) := by decide +kernel
theorem d_Fa_preventForm_10 : decode prog_5_method_5_code 10 = .ok (.aload_n 0, 1) := by decide +kernel
theorem d_Fa_preventForm_11 : decode prog_5_method_5_code 11 = .ok (.getfield 9, 3) := by decide +kernel
theorem d_Fa_preventForm_14 : decode prog_5_method_5_code 14 = .ok (.iload_n 1, 1) := by decide +kernel
theorem d_Fa_preventForm_15 : decode prog_5_method_5_code 15 = .ok (.iaload, 1) := by decide +kernel
theorem d_Fa_preventForm_16 : decode prog_5_method_5_code 16 = .ok (.bipush 8, 2) := by decide +kernel
theorem d_Fa_preventForm_18 : decode prog_5_method_5_code 18 = .ok (.irem, 1) := by decide +kernel
theorem d_Fa_preventForm_19 : decode prog_5_method_5_code 19 = .ok (.iconst 4, 1) := by decide +kernel
theorem d_Fa_preventForm_20 : decode prog_5_method_5_code 20 = .ok (.if_icmp .gt 5, 3) := by decide +kernel
theorem d_Fa_preventForm_23 : decode prog_5_method_5_code 23 = .ok (.iconst 1, 1) := by decide +kernel
theorem d_Fa_preventForm_24 : decode prog_5_method_5_code 24 = .ok (.ireturn, 1) := by decide +kernel
theorem d_Fa_preventForm_25 : decode prog_5_method_5_code 25 = .ok (.iinc 1 1, 3) := by decide +kernel
theorem d_Fa_preventForm_28 : decode prog_5_method_5_code 28 = .ok (.goto (-26), 3) := by decide +kernel
theorem d_Fa_preventForm_31 : decode prog_5_method_5_code 31 = .ok (.iconst 0, 1) := by decide +kernel
theorem d_Fa_preventForm_32 : decode prog_5_method_5_code 32 = .ok (.ireturn, 1) := by decide +kernel
theorem d_Fo_formAnew_0 : decode prog_6_method_3_code 0 = .ok (.aload_n 0, 1) := by decide +kernel
theorem d_Fo_formAnew_1 : decode prog_6_method_3_code 1 = .ok (.iconst 0, 1) := by decide +kernel
theorem d_Fo_formAnew_2 : decode prog_6_method_3_code 2 = .ok (.putfield 27, 3) := by decide +kernel
theorem d_Fo_formAnew_5 : decode prog_6_method_3_code 5 = .ok (.aload_n 0, 1) := by decide +kernel
theorem d_Fo_formAnew_6 : decode prog_6_method_3_code 6 = .ok (.getfield 23, 3) := by decide +kernel
theorem d_Fo_formAnew_9 : decode prog_6_method_3_code 9 = .ok (.aload_n 0, 1) := by decide +kernel
theorem d_Fo_formAnew_10 : decode prog_6_method_3_code 10 = .ok (.getfield 19, 3) := by decide +kernel
theorem d_Fo_formAnew_13 : decode prog_6_method_3_code 13 = .ok (.getfield 31, 3) := by decide +kernel
theorem d_Fo_formAnew_16 : decode prog_6_method_3_code 16 = .ok (.iconst 0, 1) := by decide +kernel
theorem d_Fo_formAnew_17 : decode prog_6_method_3_code 17 = .ok (.aaload, 1) := by decide +kernel
theorem d_Fo_formAnew_18 : decode prog_6_method_3_code 18 = .ok (.invokevirtual 37, 3) := by decide +kernel
theorem d_Fo_formAnew_21 : decode prog_6_method_3_code 21 = .ok (.ifCond .ne 20, 3) := by decide +kernel
theorem d_Fo_formAnew_24 : decode prog_6_method_3_code 24 = .ok (.aload_n 0, 1) := by decide +kernel
theorem d_Fo_formAnew_25 : decode prog_6_method_3_code 25 = .ok (.iconst 0, 1) := by decide +kernel
theorem d_Fo_formAnew_26 : decode prog_6_method_3_code 26 = .ok (.aload_n 0, 1) := by decide +kernel
theorem d_Fo_formAnew_27 : decode prog_6_method_3_code 27 = .ok (.getfield 15, 3) := by decide +kernel
theorem d_Fo_formAnew_30 : decode prog_6_method_3_code 30 = .ok (.getfield 43, 3) := by decide +kernel
theorem d_Fo_formAnew_33 : decode prog_6_method_3_code 33 = .ok (.invokevirtual 46, 3) := by decide +kernel
theorem d_Fo_formAnew_36 : decode prog_6_method_3_code 36 = .ok (.aload_n 0, 1) := by decide +kernel
theorem d_Fo_formAnew_37 : decode prog_6_method_3_code 37 = .ok (.getfield 27, 3) := by decide +kernel
theorem d_Fo_formAnew_40 : decode prog_6_method_3_code 40 = .ok (.ireturn, 1) := by decide +kernel
theorem d_Fo_formAnew_41 : decode prog_6_method_3_code 41 = .ok (.iconst 1, 1) := by decide +kernel
theorem d_Fo_formAnew_42 : decode prog_6_method_3_code 42 = .ok (.istore_n 1, 1) := by decide +kernel
theorem d_Fo_formAnew_43 : decode prog_6_method_3_code 43 = .ok (.iload_n 1, 1) := by decide +kernel
theorem d_Fo_formAnew_44 : decode prog_6_method_3_code 44 = .ok (.aload_n 0, 1) := by decide +kernel
theorem d_Fo_formAnew_45 : decode prog_6_method_3_code 45 = .ok (.getfield 19, 3) := by decide +kernel
theorem d_Fo_formAnew_48 : decode prog_6_method_3_code 48 = .ok (.getfield 50, 3) := by decide +kernel
theorem d_Fo_formAnew_51 : decode prog_6_method_3_code 51 = .ok (.if_icmp .gt 42, 3) := by decide +kernel
theorem d_Fo_formAnew_54 : decode prog_6_method_3_code 54 = .ok (.aload_n 0, 1) := by decide +kernel
theorem d_Fo_formAnew_55 : decode prog_6_method_3_code 55 = .ok (.getfield 19, 3) := by decide +kernel
theorem d_Fo_formAnew_58 : decode prog_6_method_3_code 58 = .ok (.getfield 31, 3) := by decide +kernel
theorem d_Fo_formAnew_61 : decode prog_6_method_3_code 61 = .ok (.iload_n 1, 1) := by decide +kernel
theorem d_Fo_formAnew_62 : decode prog_6_method_3_code 62 = .ok (.aaload, 1) := by decide +kernel
theorem d_Fo_formAnew_63 : decode prog_6_method_3_code 63 = .ok (.getfield 53, 3) := by decide +kernel
theorem d_Fo_formAnew_66 : decode prog_6_method_3_code 66 = .ok (.ifCond .ne 21, 3) := by decide +kernel
theorem d_Fo_formAnew_69 : decode prog_6_method_3_code 69 = .ok (.aload_n 0, 1) := by decide +kernel
theorem d_Fo_formAnew_70 : decode prog_6_method_3_code 70 = .ok (.getfield 27, 3) := by decide +kernel
theorem d_Fo_formAnew_73 : decode prog_6_method_3_code 73 = .ok (.ifCond .le 8, 3) := by decide +kernel
theorem d_Fo_formAnew_76 : decode prog_6_method_3_code 76 = .ok (.aload_n 0, 1) := by decide +kernel
theorem d_Fo_formAnew_77 : decode prog_6_method_3_code 77 = .ok (.iconst 0, 1) := by decide +kernel
theorem d_Fo_formAnew_78 : decode prog_6_method_3_code 78 = .ok (.invokevirtual 58, 3) := by decide +kernel
theorem d_Fo_formAnew_81 : decode prog_6_method_3_code 81 = .ok (.aload_n 0, 1) := by decide +kernel
theorem d_Fo_formAnew_82 : decode prog_6_method_3_code 82 = .ok (.iload_n 1, 1) := by decide +kernel
theorem d_Fo_formAnew_83 : decode prog_6_method_3_code 83 = .ok (.iconst 1, 1) := by decide +kernel
theorem d_Fo_formAnew_84 : decode prog_6_method_3_code 84 = .ok (.invokevirtual 62, 3) := by decide +kernel
theorem d_Fo_formAnew_87 : decode prog_6_method_3_code 87 = .ok (.iinc 1 1, 3) := by decide +kernel
theorem d_Fo_formAnew_90 : decode prog_6_method_3_code 90 = .ok (.goto (-47), 3) := by decide +kernel
theorem d_Fo_formAnew_93 : decode prog_6_method_3_code 93 = .ok (.aload_n 0, 1) := by decide +kernel
theorem d_Fo_formAnew_94 : decode prog_6_method_3_code 94 = .ok (.getfield 27, 3) := by decide +kernel
theorem d_Fo_formAnew_97 : decode prog_6_method_3_code 97 = .ok (.ireturn, 1) := by decide +kernel
theorem d_Fo_copy_0 : decode prog_6_method_6_code 0 = .ok (.iload_n 1, 1) := by decide +kernel
theorem d_Fo_copy_1 : decode prog_6_method_6_code 1 = .ok (.istore_n 3, 1) := by decide +kernel
theorem d_Fo_copy_2 : decode prog_6_method_6_code 2 = .ok (.iload_n 3, 1) := by decide +kernel
theorem d_Fo_copy_3 : decode prog_6_method_6_code 3 = .ok (.iload_n 2, 1) := by decide +kernel
theorem d_Fo_copy_4 : decode prog_6_method_6_code 4 = .ok (.if_icmp .ge 21, 3) := by decide +kernel
theorem d_Fo_copy_7 : decode prog_6_method_6_code 7 = .ok (.aload_n 0, 1) := by decide +kernel
theorem d_Fo_copy_8 : decode prog_6_method_6_code 8 = .ok (.aload_n 0, 1) := by decide +kernel
theorem d_Fo_copy_9 : decode prog_6_method_6_code 9 = .ok (.getfield 15, 3) := by decide +kernel
theorem d_Fo_copy_12 : decode prog_6_method_6_code 12 = .ok (.iload_n 3, 1) := by decide +kernel
theorem d_Fo_copy_13 : decode prog_6_method_6_code 13 = .ok (.invokevirtual 80, 3) := by decide +kernel
theorem d_Fo_copy_16 : decode prog_6_method_6_code 16 = .ok (.invokevirtual 77, 3) := by decide +kernel
theorem d_Fo_copy_19 : decode prog_6_method_6_code 19 = .ok (.iinc 3 1, 3) := by decide +kernel
theorem d_Fo_copy_22 : decode prog_6_method_6_code 22 = .ok (.goto (-20), 3) := by decide +kernel
theorem d_Fo_copy_25 : decode prog_6_method_6_code 25 = .ok (.return_, 1) := by decide +kernel
theorem d_Fo_put_0 : decode prog_6_method_7_code 0 = .ok (.aload_n 0, 1) := by decide +kernel
theorem d_Fo_put_1 : decode prog_6_method_7_code 1 = .ok (.getfield 27, 3) := by decide +kernel
theorem d_Fo_put_4 : decode prog_6_method_7_code 4 = .ok (.sipush 694, 3) := by decide +kernel
theorem d_Fo_put_7 : decode prog_6_method_7_code 7 = .ok (.if_icmp .ge 24, 3) := by decide +kernel
theorem d_Fo_put_10 : decode prog_6_method_7_code 10 = .ok (.aload_n 0, 1) := by decide +kernel
theorem d_Fo_put_11 : decode prog_6_method_7_code 11 = .ok (.getfield 9, 3) := by decide +kernel
theorem d_Fo_put_14 : decode prog_6_method_7_code 14 = .ok (.aload_n 0, 1) := by decide +kernel
theorem d_Fo_put_15 : decode prog_6_method_7_code 15 = .ok (.getfield 27, 3) := by decide +kernel
theorem d_Fo_put_18 : decode prog_6_method_7_code 18 = .ok (.iload_n 1, 1) := by decide +kernel
theorem d_Fo_put_19 : decode prog_6_method_7_code 19 = .ok (.i2c, 1) := by decide +kernel
theorem d_Fo_put_20 : decode prog_6_method_7_code 20 = .ok (.castore, 1) := by decide +kernel
theorem d_Fo_put_21 : decode prog_6_method_7_code 21 = .ok (.aload_n 0, 1) := by decide +kernel
theorem d_Fo_put_22 : decode prog_6_method_7_code 22 = .ok (.dup, 1) := by decide +kernel
theorem d_Fo_put_23 : decode prog_6_method_7_code 23 = .ok (.getfield 27, 3) := by decide +kernel
theorem d_Fo_put_26 : decode prog_6_method_7_code 26 = .ok (.iconst 1, 1) := by decide +kernel
theorem d_Fo_put_27 : decode prog_6_method_7_code 27 = .ok (.iadd, 1) := by decide +kernel
theorem d_Fo_put_28 : decode prog_6_method_7_code 28 = .ok (.putfield 27, 3) := by decide +kernel
theorem d_Fo_put_31 : decode prog_6_method_7_code 31 = .ok (.return_, 1) := by decide +kernel
theorem d_Fo_startLine_0 : decode prog_6_method_5_code 0 = .ok (.aload_n 0, 1) := by decide +kernel
theorem d_Fo_startLine_1 : decode prog_6_method_5_code 1 = .ok (.bipush 10, 2) := by decide +kernel
theorem d_Fo_startLine_3 : decode prog_6_method_5_code 3 = .ok (.invokevirtual 77, 3) := by decide +kernel
theorem d_Fo_startLine_6 : decode prog_6_method_5_code 6 = .ok (.iconst 0, 1) := by decide +kernel
theorem d_Fo_startLine_7 : decode prog_6_method_5_code 7 = .ok (.istore_n 2, 1) := by decide +kernel
theorem d_Fo_startLine_8 : decode prog_6_method_5_code 8 = .ok (.iload_n 2, 1) := by decide +kernel
theorem d_Fo_startLine_9 : decode prog_6_method_5_code 9 = .ok (.iload_n 1, 1) := by decide +kernel
theorem d_Fo_startLine_10 : decode prog_6_method_5_code 10 = .ok (.if_icmp .ge 15, 3) := by decide +kernel
theorem d_Fo_startLine_13 : decode prog_6_method_5_code 13 = .ok (.aload_n 0, 1) := by decide +kernel
theorem d_Fo_startLine_14 : decode prog_6_method_5_code 14 = .ok (.bipush 32, 2) := by decide +kernel
theorem d_Fo_startLine_16 : decode prog_6_method_5_code 16 = .ok (.invokevirtual 77, 3) := by decide +kernel
theorem d_Fo_startLine_19 : decode prog_6_method_5_code 19 = .ok (.iinc 2 1, 3) := by decide +kernel
theorem d_Fo_startLine_22 : decode prog_6_method_5_code 22 = .ok (.goto (-14), 3) := by decide +kernel
theorem d_Fo_startLine_25 : decode prog_6_method_5_code 25 = .ok (.return_, 1) := by decide +kernel
theorem d_Fo_addForm_0 : decode prog_6_method_4_code 0 = .ok (.aload_n 0, 1) := by decide +kernel
theorem d_Fo_addForm_1 : decode prog_6_method_4_code 1 = .ok (.getfield 19, 3) := by decide +kernel
theorem d_Fo_addForm_4 : decode prog_6_method_4_code 4 = .ok (.getfield 31, 3) := by decide +kernel
theorem d_Fo_addForm_7 : decode prog_6_method_4_code 7 = .ok (.iload_n 1, 1) := by decide +kernel
theorem d_Fo_addForm_8 : decode prog_6_method_4_code 8 = .ok (.aaload, 1) := by decide +kernel
theorem d_Fo_addForm_9 : decode prog_6_method_4_code 9 = .ok (.astore_n 3, 1) := by decide +kernel
theorem d_Fo_addForm_10 : decode prog_6_method_4_code 10 = .ok (.iload_n 2, 1) := by decide +kernel
theorem d_Fo_addForm_11 : decode prog_6_method_4_code 11 = .ok (.bipush 8, 2) := by decide +kernel
theorem d_Fo_addForm_13 : decode prog_6_method_4_code 13 = .ok (.if_icmp .gt 14, 3) := by decide +kernel
theorem d_Fo_addForm_16 : decode prog_6_method_4_code 16 = .ok (.aload_n 0, 1) := by decide +kernel
theorem d_Fo_addForm_17 : decode prog_6_method_4_code 17 = .ok (.getfield 23, 3) := by decide +kernel
theorem d_Fo_addForm_20 : decode prog_6_method_4_code 20 = .ok (.aload_n 3, 1) := by decide +kernel
theorem d_Fo_addForm_21 : decode prog_6_method_4_code 21 = .ok (.invokevirtual 37, 3) := by decide +kernel
theorem d_Fo_addForm_24 : decode prog_6_method_4_code 24 = .ok (.ifCond .ne 16, 3) := by decide +kernel
theorem d_Fo_addForm_27 : decode prog_6_method_4_code 27 = .ok (.aload_n 0, 1) := by decide +kernel
theorem d_Fo_addForm_28 : decode prog_6_method_4_code 28 = .ok (.aload_n 3, 1) := by decide +kernel
theorem d_Fo_addForm_29 : decode prog_6_method_4_code 29 = .ok (.getfield 65, 3) := by decide +kernel
theorem d_Fo_addForm_32 : decode prog_6_method_4_code 32 = .ok (.aload_n 3, 1) := by decide +kernel
theorem d_Fo_addForm_33 : decode prog_6_method_4_code 33 = .ok (.getfield 68, 3) := by decide +kernel
theorem d_Fo_addForm_36 : decode prog_6_method_4_code 36 = .ok (.invokevirtual 46, 3) := by decide +kernel
theorem d_Fo_addForm_39 : decode prog_6_method_4_code 39 = .ok (.return_, 1) := by decide +kernel
theorem d_Fo_addForm_40 : decode prog_6_method_4_code 40 = .ok (.aload_n 0, 1) := by decide +kernel
theorem d_Fo_addForm_41 : decode prog_6_method_4_code 41 = .ok (.aload_n 3, 1) := by decide +kernel
theorem d_Fo_addForm_42 : decode prog_6_method_4_code 42 = .ok (.getfield 65, 3) := by decide +kernel
theorem d_Fo_addForm_45 : decode prog_6_method_4_code 45 = .ok (.aload_n 3, 1) := by decide +kernel
theorem d_Fo_addForm_46 : decode prog_6_method_4_code 46 = .ok (.getfield 71, 3) := by decide +kernel
theorem d_Fo_addForm_49 : decode prog_6_method_4_code 49 = .ok (.invokevirtual 46, 3) := by decide +kernel
theorem d_Fo_addForm_52 : decode prog_6_method_4_code 52 = .ok (.iload_n 1, 1) := by decide +kernel
theorem d_Fo_addForm_53 : decode prog_6_method_4_code 53 = .ok (.iconst 1, 1) := by decide +kernel
theorem d_Fo_addForm_54 : decode prog_6_method_4_code 54 = .ok (.iadd, 1) := by decide +kernel
theorem d_Fo_addForm_55 : decode prog_6_method_4_code 55 = .ok (.istore 4, 2) := by decide +kernel
theorem d_Fo_addForm_57 : decode prog_6_method_4_code 57 = .ok (.iload 4, 2) := by decide +kernel
theorem d_Fo_addForm_59 : decode prog_6_method_4_code 59 = .ok (.aload_n 0, 1) := by decide +kernel
theorem d_Fo_addForm_60 : decode prog_6_method_4_code 60 = .ok (.getfield 19, 3) := by decide +kernel
theorem d_Fo_addForm_63 : decode prog_6_method_4_code 63 = .ok (.getfield 50, 3) := by decide +kernel
theorem d_Fo_addForm_66 : decode prog_6_method_4_code 66 = .ok (.if_icmp .gt 40, 3) := by decide +kernel
theorem d_Fo_addForm_69 : decode prog_6_method_4_code 69 = .ok (.aload_n 0, 1) := by decide +kernel
theorem d_Fo_addForm_70 : decode prog_6_method_4_code 70 = .ok (.getfield 19, 3) := by decide +kernel
theorem d_Fo_addForm_73 : decode prog_6_method_4_code 73 = .ok (.getfield 31, 3) := by decide +kernel
theorem d_Fo_addForm_76 : decode prog_6_method_4_code 76 = .ok (.iload 4, 2) := by decide +kernel
theorem d_Fo_addForm_78 : decode prog_6_method_4_code 78 = .ok (.aaload, 1) := by decide +kernel
theorem d_Fo_addForm_79 : decode prog_6_method_4_code 79 = .ok (.getfield 53, 3) := by decide +kernel
theorem d_Fo_addForm_82 : decode prog_6_method_4_code 82 = .ok (.iload_n 1, 1) := by decide +kernel
theorem d_Fo_addForm_83 : decode prog_6_method_4_code 83 = .ok (.if_icmp .ne 17, 3) := by decide +kernel
theorem d_Fo_addForm_86 : decode prog_6_method_4_code 86 = .ok (.aload_n 0, 1) := by decide +kernel
theorem d_Fo_addForm_87 : decode prog_6_method_4_code 87 = .ok (.iload_n 2, 1) := by decide +kernel
theorem d_Fo_addForm_88 : decode prog_6_method_4_code 88 = .ok (.invokevirtual 58, 3) := by decide +kernel
theorem d_Fo_addForm_91 : decode prog_6_method_4_code 91 = .ok (.aload_n 0, 1) := by decide +kernel
theorem d_Fo_addForm_92 : decode prog_6_method_4_code 92 = .ok (.iload 4, 2) := by decide +kernel
theorem d_Fo_addForm_94 : decode prog_6_method_4_code 94 = .ok (.iload_n 2, 1) := by decide +kernel
theorem d_Fo_addForm_95 : decode prog_6_method_4_code 95 = .ok (.iconst 1, 1) := by decide +kernel
theorem d_Fo_addForm_96 : decode prog_6_method_4_code 96 = .ok (.iadd, 1) := by decide +kernel
theorem d_Fo_addForm_97 : decode prog_6_method_4_code 97 = .ok (.invokevirtual 62, 3) := by decide +kernel
theorem d_Fo_addForm_100 : decode prog_6_method_4_code 100 = .ok (.iinc 4 1, 3) := by decide +kernel
theorem d_Fo_addForm_103 : decode prog_6_method_4_code 103 = .ok (.goto (-46), 3) := by decide +kernel
theorem d_Fo_addForm_106 : decode prog_6_method_4_code 106 = .ok (.aload_n 0, 1) := by decide +kernel
theorem d_Fo_addForm_107 : decode prog_6_method_4_code 107 = .ok (.iload_n 2, 1) := by decide +kernel
theorem d_Fo_addForm_108 : decode prog_6_method_4_code 108 = .ok (.iconst 1, 1) := by decide +kernel
theorem d_Fo_addForm_109 : decode prog_6_method_4_code 109 = .ok (.isub, 1) := by decide +kernel
theorem d_Fo_addForm_110 : decode prog_6_method_4_code 110 = .ok (.invokevirtual 58, 3) := by decide +kernel
theorem d_Fo_addForm_113 : decode prog_6_method_4_code 113 = .ok (.aload_n 0, 1) := by decide +kernel
theorem d_Fo_addForm_114 : decode prog_6_method_4_code 114 = .ok (.aload_n 3, 1) := by decide +kernel
theorem d_Fo_addForm_115 : decode prog_6_method_4_code 115 = .ok (.getfield 74, 3) := by decide +kernel
theorem d_Fo_addForm_118 : decode prog_6_method_4_code 118 = .ok (.aload_n 3, 1) := by decide +kernel
theorem d_Fo_addForm_119 : decode prog_6_method_4_code 119 = .ok (.getfield 68, 3) := by decide +kernel
theorem d_Fo_addForm_122 : decode prog_6_method_4_code 122 = .ok (.invokevirtual 46, 3) := by decide +kernel
theorem d_Fo_addForm_125 : decode prog_6_method_4_code 125 = .ok (.return_, 1) := by decide +kernel
theorem d_An_keep_0 : decode prog_2_method_2_code 0 = .ok (.aload_n 0, 1) := by decide +kernel
theorem d_An_keep_1 : decode prog_2_method_2_code 1 = .ok (.getfield 9, 3) := by decide +kernel
theorem d_An_keep_4 : decode prog_2_method_2_code 4 = .ok (.aload_n 0, 1) := by decide +kernel
theorem d_An_keep_5 : decode prog_2_method_2_code 5 = .ok (.getfield 18, 3) := by decide +kernel
theorem d_An_keep_8 : decode prog_2_method_2_code 8 = .ok (.iload_n 1, 1) := by decide +kernel
theorem d_An_keep_9 : decode prog_2_method_2_code 9 = .ok (.iastore, 1) := by decide +kernel
theorem d_An_keep_10 : decode prog_2_method_2_code 10 = .ok (.aload_n 0, 1) := by decide +kernel
theorem d_An_keep_11 : decode prog_2_method_2_code 11 = .ok (.getfield 15, 3) := by decide +kernel
theorem d_An_keep_14 : decode prog_2_method_2_code 14 = .ok (.aload_n 0, 1) := by decide +kernel
theorem d_An_keep_15 : decode prog_2_method_2_code 15 = .ok (.getfield 18, 3) := by decide +kernel
theorem d_An_keep_18 : decode prog_2_method_2_code 18 = .ok (.iload_n 2, 1) := by decide +kernel
theorem d_An_keep_19 : decode prog_2_method_2_code 19 = .ok (.iastore, 1) := by decide +kernel
theorem d_An_keep_20 : decode prog_2_method_2_code 20 = .ok (.aload_n 0, 1) := by decide +kernel
theorem d_An_keep_21 : decode prog_2_method_2_code 21 = .ok (.aload_n 0, 1) := by decide +kernel
theorem d_An_keep_22 : decode prog_2_method_2_code 22 = .ok (.getfield 18, 3) := by decide +kernel
theorem d_An_keep_25 : decode prog_2_method_2_code 25 = .ok (.iconst 1, 1) := by decide +kernel
theorem d_An_keep_26 : decode prog_2_method_2_code 26 = .ok (.iadd, 1) := by decide +kernel
theorem d_An_keep_27 : decode prog_2_method_2_code 27 = .ok (.bipush 8, 2) := by decide +kernel
theorem d_An_keep_29 : decode prog_2_method_2_code 29 = .ok (.irem, 1) := by decide +kernel
theorem d_An_keep_30 : decode prog_2_method_2_code 30 = .ok (.putfield 18, 3) := by decide +kernel
theorem d_An_keep_33 : decode prog_2_method_2_code 33 = .ok (.return_, 1) := by decide +kernel
theorem d_TG_answer_0 : decode prog_1_method_9_code 0 = .ok (.aload_n 0, 1) := by decide +kernel
theorem d_TG_answer_1 : decode prog_1_method_9_code 1 = .ok (.getfield 67, 3) := by decide +kernel
theorem d_TG_answer_4 : decode prog_1_method_9_code 4 = .ok (.iload_n 1, 1) := by decide +kernel
theorem d_TG_answer_5 : decode prog_1_method_9_code 5 = .ok (.invokevirtual 120, 3) := by decide +kernel
theorem d_TG_answer_8 : decode prog_1_method_9_code 8 = .ok (.iconst (-1), 1) := by decide +kernel
theorem d_TG_answer_9 : decode prog_1_method_9_code 9 = .ok (.if_icmp .ne 14, 3) := by decide +kernel
theorem d_TG_answer_12 : decode prog_1_method_9_code 12 = .ok (.aload_n 0, 1) := by decide +kernel
theorem d_TG_answer_13 : decode prog_1_method_9_code 13 = .ok (.getfield 74, 3) := by decide +kernel
theorem d_TG_answer_16 : decode prog_1_method_9_code 16 = .ok (.iload_n 1, 1) := by decide +kernel
theorem d_TG_answer_17 : decode prog_1_method_9_code 17 = .ok (.invokevirtual 158, 3) := by decide +kernel
theorem d_TG_answer_20 : decode prog_1_method_9_code 20 = .ok (.goto 5, 3) := by decide +kernel
theorem d_TG_answer_23 : decode prog_1_method_9_code 23 = .ok (.bipush (-3), 2) := by decide +kernel
theorem d_TG_answer_25 : decode prog_1_method_9_code 25 = .ok (.ireturn, 1) := by decide +kernel
theorem d_An_of_0 : decode prog_2_method_3_code 0 = .ok (.iconst 0, 1) := by decide +kernel
theorem d_An_of_1 : decode prog_2_method_3_code 1 = .ok (.istore_n 2, 1) := by decide +kernel
theorem d_An_of_2 : decode prog_2_method_3_code 2 = .ok (.iload_n 1, 1) := by decide +kernel
theorem d_An_of_3 : decode prog_2_method_3_code 3 = .ok (.ifCond .le 32, 3) := by decide +kernel
theorem d_An_of_6 : decode prog_2_method_3_code 6 = .ok (.iload_n 2, 1) := by decide +kernel
theorem d_An_of_7 : decode prog_2_method_3_code 7 = .ok (.bipush 8, 2) := by decide +kernel
theorem d_An_of_9 : decode prog_2_method_3_code 9 = .ok (.if_icmp .ge 26, 3) := by decide +kernel
theorem d_An_of_12 : decode prog_2_method_3_code 12 = .ok (.aload_n 0, 1) := by decide +kernel
theorem d_An_of_13 : decode prog_2_method_3_code 13 = .ok (.getfield 9, 3) := by decide +kernel
theorem d_An_of_16 : decode prog_2_method_3_code 16 = .ok (.iload_n 2, 1) := by decide +kernel
theorem d_An_of_17 : decode prog_2_method_3_code 17 = .ok (.iaload, 1) := by decide +kernel
theorem d_An_of_18 : decode prog_2_method_3_code 18 = .ok (.iload_n 1, 1) := by decide +kernel
theorem d_An_of_19 : decode prog_2_method_3_code 19 = .ok (.if_icmp .ne 10, 3) := by decide +kernel
theorem d_An_of_22 : decode prog_2_method_3_code 22 = .ok (.aload_n 0, 1) := by decide +kernel
theorem d_An_of_23 : decode prog_2_method_3_code 23 = .ok (.getfield 15, 3) := by decide +kernel
theorem d_An_of_26 : decode prog_2_method_3_code 26 = .ok (.iload_n 2, 1) := by decide +kernel
theorem d_An_of_27 : decode prog_2_method_3_code 27 = .ok (.iaload, 1) := by decide +kernel
theorem d_An_of_28 : decode prog_2_method_3_code 28 = .ok (.ireturn, 1) := by decide +kernel
theorem d_An_of_29 : decode prog_2_method_3_code 29 = .ok (.iinc 2 1, 3) := by decide +kernel
theorem d_An_of_32 : decode prog_2_method_3_code 32 = .ok (.goto (-30), 3) := by decide +kernel
theorem d_An_of_35 : decode prog_2_method_3_code 35 = .ok (.iconst (-1), 1) := by decide +kernel
theorem d_An_of_36 : decode prog_2_method_3_code 36 = .ok (.ireturn, 1) := by decide +kernel
theorem d_TG_inbox_0 : decode prog_1_method_10_code 0 = .ok (.aload_n 0, 1) := by decide +kernel
theorem d_TG_inbox_1 : decode prog_1_method_10_code 1 = .ok (.getfield 67, 3) := by decide +kernel
theorem d_TG_inbox_4 : decode prog_1_method_10_code 4 = .ok (.getfield 127, 3) := by decide +kernel
theorem d_TG_inbox_7 : decode prog_1_method_10_code 7 = .ok (.ireturn, 1) := by decide +kernel
theorem d_TG_length_0 : decode prog_1_method_11_code 0 = .ok (.aload_n 0, 1) := by decide +kernel
theorem d_TG_length_1 : decode prog_1_method_11_code 1 = .ok (.getfield 35, 3) := by decide +kernel
theorem d_TG_length_4 : decode prog_1_method_11_code 4 = .ok (.getfield 161, 3) := by decide +kernel
theorem d_TG_length_7 : decode prog_1_method_11_code 7 = .ok (.ireturn, 1) := by decide +kernel
theorem d_TG_character_0 : decode prog_1_method_12_code 0 = .ok (.aload_n 0, 1) := by decide +kernel
theorem d_TG_character_1 : decode prog_1_method_12_code 1 = .ok (.getfield 35, 3) := by decide +kernel
theorem d_TG_character_4 : decode prog_1_method_12_code 4 = .ok (.iload_n 1, 1) := by decide +kernel
theorem d_TG_character_5 : decode prog_1_method_12_code 5 = .ok (.invokevirtual 162, 3) := by decide +kernel
theorem d_TG_character_8 : decode prog_1_method_12_code 8 = .ok (.ireturn, 1) := by decide +kernel
theorem d_TG_element_0 : decode prog_1_method_13_code 0 = .ok (.aload_n 0, 1) := by decide +kernel
theorem d_TG_element_1 : decode prog_1_method_13_code 1 = .ok (.invokevirtual 148, 3) := by decide +kernel
theorem d_TG_element_4 : decode prog_1_method_13_code 4 = .ok (.iload_n 1, 1) := by decide +kernel
theorem d_TG_element_5 : decode prog_1_method_13_code 5 = .ok (.ifCond .lt 14, 3) := by decide +kernel
theorem d_TG_element_8 : decode prog_1_method_13_code 8 = .ok (.iload_n 1, 1) := by decide +kernel
theorem d_TG_element_9 : decode prog_1_method_13_code 9 = .ok (.aload_n 0, 1) := by decide +kernel
theorem d_TG_element_10 : decode prog_1_method_13_code 10 = .ok (.getfield 44, 3) := by decide +kernel
theorem d_TG_element_13 : decode prog_1_method_13_code 13 = .ok (.getfield 165, 3) := by decide +kernel
theorem d_TG_element_16 : decode prog_1_method_13_code 16 = .ok (.if_icmp .le 7, 3) := by decide +kernel
theorem d_TG_element_19 : decode prog_1_method_13_code 19 = .ok (.iconst (-1), 1) := by decide +kernel
theorem d_TG_element_20 : decode prog_1_method_13_code 20 = .ok (.goto 16, 3) := by decide +kernel
theorem d_TG_element_23 : decode prog_1_method_13_code 23 = .ok (.aload_n 0, 1) := by decide +kernel
theorem d_TG_element_24 : decode prog_1_method_13_code 24 = .ok (.getfield 44, 3) := by decide +kernel
theorem d_TG_element_27 : decode prog_1_method_13_code 27 = .ok (.getfield 168, 3) := by decide +kernel
theorem d_TG_element_30 : decode prog_1_method_13_code 30 = .ok (.iload_n 1, 1) := by decide +kernel
theorem d_TG_element_31 : decode prog_1_method_13_code 31 = .ok (.aaload, 1) := by decide +kernel
theorem d_TG_element_32 : decode prog_1_method_13_code 32 = .ok (.iload_n 2, 1) := by decide +kernel
theorem d_TG_element_33 : decode prog_1_method_13_code 33 = .ok (.invokevirtual 172, 3) := by decide +kernel
theorem d_TG_element_36 : decode prog_1_method_13_code 36 = .ok (.ireturn, 1) := by decide +kernel
theorem d_El_tell_0 : decode prog_4_method_6_code 0 = .ok (.iload_n 1, 1) := by decide +kernel
theorem d_El_tell_1 : decode prog_4_method_6_code 1 = .ok (.tableswitch 78 0 5 #[39, 44, 49, 54, 59, 64], 39) := by decide +kernel
theorem d_El_tell_40 : decode prog_4_method_6_code 40 = .ok (.aload_n 0, 1) := by decide +kernel
theorem d_El_tell_41 : decode prog_4_method_6_code 41 = .ok (.getfield 9, 3) := by decide +kernel
theorem d_El_tell_44 : decode prog_4_method_6_code 44 = .ok (.ireturn, 1) := by decide +kernel
theorem d_El_tell_45 : decode prog_4_method_6_code 45 = .ok (.aload_n 0, 1) := by decide +kernel
theorem d_El_tell_46 : decode prog_4_method_6_code 46 = .ok (.getfield 15, 3) := by decide +kernel
theorem d_El_tell_49 : decode prog_4_method_6_code 49 = .ok (.ireturn, 1) := by decide +kernel
theorem d_El_tell_50 : decode prog_4_method_6_code 50 = .ok (.aload_n 0, 1) := by decide +kernel
theorem d_El_tell_51 : decode prog_4_method_6_code 51 = .ok (.getfield 21, 3) := by decide +kernel
theorem d_El_tell_54 : decode prog_4_method_6_code 54 = .ok (.ireturn, 1) := by decide +kernel
theorem d_El_tell_55 : decode prog_4_method_6_code 55 = .ok (.aload_n 0, 1) := by decide +kernel
theorem d_El_tell_56 : decode prog_4_method_6_code 56 = .ok (.getfield 39, 3) := by decide +kernel
theorem d_El_tell_59 : decode prog_4_method_6_code 59 = .ok (.ireturn, 1) := by decide +kernel
theorem d_El_tell_60 : decode prog_4_method_6_code 60 = .ok (.aload_n 0, 1) := by decide +kernel
theorem d_El_tell_61 : decode prog_4_method_6_code 61 = .ok (.getfield 27, 3) := by decide +kernel
theorem d_El_tell_64 : decode prog_4_method_6_code 64 = .ok (.ireturn, 1) := by decide +kernel
theorem d_El_tell_65 : decode prog_4_method_6_code 65 = .ok (.aload_n 0, 1) := by decide +kernel
theorem d_El_tell_66 : decode prog_4_method_6_code 66 = .ok (.getfield 33, 3) := by decide +kernel
theorem d_El_tell_69 : decode prog_4_method_6_code 69 = .ok (.iconst 3, 1) := by decide +kernel
theorem d_El_tell_70 : decode prog_4_method_6_code 70 = .ok (.if_icmp .ne 7, 3) := by decide +kernel
theorem d_El_tell_73 : decode prog_4_method_6_code 73 = .ok (.iconst 1, 1) := by decide +kernel
theorem d_El_tell_74 : decode prog_4_method_6_code 74 = .ok (.goto 4, 3) := by decide +kernel
theorem d_El_tell_77 : decode prog_4_method_6_code 77 = .ok (.iconst 0, 1) := by decide +kernel
theorem d_El_tell_78 : decode prog_4_method_6_code 78 = .ok (.ireturn, 1) := by decide +kernel
theorem d_El_tell_79 : decode prog_4_method_6_code 79 = .ok (.iconst (-1), 1) := by decide +kernel
theorem d_El_tell_80 : decode prog_4_method_6_code 80 = .ok (.ireturn, 1) := by decide +kernel
theorem d_TG_fault_0 : decode prog_1_method_14_code 0 = .ok (.aload_n 0, 1) := by decide +kernel
theorem d_TG_fault_1 : decode prog_1_method_14_code 1 = .ok (.invokevirtual 148, 3) := by decide +kernel
theorem d_TG_fault_4 : decode prog_1_method_14_code 4 = .ok (.aload_n 0, 1) := by decide +kernel
theorem d_TG_fault_5 : decode prog_1_method_14_code 5 = .ok (.getfield 51, 3) := by decide +kernel
theorem d_TG_fault_8 : decode prog_1_method_14_code 8 = .ok (.iload_n 1, 1) := by decide +kernel
theorem d_TG_fault_9 : decode prog_1_method_14_code 9 = .ok (.iload_n 2, 1) := by decide +kernel
theorem d_TG_fault_10 : decode prog_1_method_14_code 10 = .ok (.invokevirtual 177, 3) := by decide +kernel
theorem d_TG_fault_13 : decode prog_1_method_14_code 13 = .ok (.ireturn, 1) := by decide +kernel
theorem d_Fa_tell_0 : decode prog_5_method_6_code 0 = .ok (.iload_n 1, 1) := by decide +kernel
theorem d_Fa_tell_1 : decode prog_5_method_6_code 1 = .ok (.ifCond .lt 11, 3) := by decide +kernel
theorem d_Fa_tell_4 : decode prog_5_method_6_code 4 = .ok (.iload_n 1, 1) := by decide +kernel
theorem d_Fa_tell_5 : decode prog_5_method_6_code 5 = .ok (.aload_n 0, 1) := by decide +kernel
theorem d_Fa_tell_6 : decode prog_5_method_6_code 6 = .ok (.getfield 15, 3) := by decide +kernel
theorem d_Fa_tell_9 : decode prog_5_method_6_code 9 = .ok (.if_icmp .lt 5, 3) := by decide +kernel
theorem d_Fa_tell_12 : decode prog_5_method_6_code 12 = .ok (.iconst (-1), 1) := by decide +kernel
theorem d_Fa_tell_13 : decode prog_5_method_6_code 13 = .ok (.ireturn, 1) := by decide +kernel
theorem d_Fa_tell_14 : decode prog_5_method_6_code 14 = .ok (.iload_n 2, 1) := by decide +kernel
theorem d_Fa_tell_15 : decode prog_5_method_6_code 15 = .ok (.lookupswitch 45 #[(0, 25), (1, 35)], 25) := by decide +kernel
theorem d_Fa_tell_40 : decode prog_5_method_6_code 40 = .ok (.aload_n 0, 1) := by decide +kernel
theorem d_Fa_tell_41 : decode prog_5_method_6_code 41 = .ok (.getfield 9, 3) := by decide +kernel
theorem d_Fa_tell_44 : decode prog_5_method_6_code 44 = .ok (.iload_n 1, 1) := by decide +kernel
theorem d_Fa_tell_45 : decode prog_5_method_6_code 45 = .ok (.iaload, 1) := by decide +kernel
theorem d_Fa_tell_46 : decode prog_5_method_6_code 46 = .ok (.bipush 8, 2) := by decide +kernel
theorem d_Fa_tell_48 : decode prog_5_method_6_code 48 = .ok (.irem, 1) := by decide +kernel
theorem d_Fa_tell_49 : decode prog_5_method_6_code 49 = .ok (.ireturn, 1) := by decide +kernel
theorem d_Fa_tell_50 : decode prog_5_method_6_code 50 = .ok (.aload_n 0, 1) := by decide +kernel
theorem d_Fa_tell_51 : decode prog_5_method_6_code 51 = .ok (.getfield 9, 3) := by decide +kernel
theorem d_Fa_tell_54 : decode prog_5_method_6_code 54 = .ok (.iload_n 1, 1) := by decide +kernel
theorem d_Fa_tell_55 : decode prog_5_method_6_code 55 = .ok (.iaload, 1) := by decide +kernel
theorem d_Fa_tell_56 : decode prog_5_method_6_code 56 = .ok (.bipush 8, 2) := by decide +kernel
theorem d_Fa_tell_58 : decode prog_5_method_6_code 58 = .ok (.idiv, 1) := by decide +kernel
theorem d_Fa_tell_59 : decode prog_5_method_6_code 59 = .ok (.ireturn, 1) := by decide +kernel
theorem d_Fa_tell_60 : decode prog_5_method_6_code 60 = .ok (.iconst (-1), 1) := by decide +kernel
theorem d_Fa_tell_61 : decode prog_5_method_6_code 61 = .ok (.ireturn, 1) := by decide +kernel
theorem d_TG_fertile_0 : decode prog_1_method_15_code 0 = .ok (.aload_n 0, 1) := by decide +kernel
theorem d_TG_fertile_1 : decode prog_1_method_15_code 1 = .ok (.getfield 28, 3) := by decide +kernel
theorem d_TG_fertile_4 : decode prog_1_method_15_code 4 = .ok (.getfield 180, 3) := by decide +kernel
theorem d_TG_fertile_7 : decode prog_1_method_15_code 7 = .ok (.ireturn, 1) := by decide +kernel
theorem d_TG_formed_0 : decode prog_1_method_16_code 0 = .ok (.aload_n 0, 1) := by decide +kernel
theorem d_TG_formed_1 : decode prog_1_method_16_code 1 = .ok (.getfield 60, 3) := by decide +kernel
theorem d_TG_formed_4 : decode prog_1_method_16_code 4 = .ok (.iload_n 1, 1) := by decide +kernel
theorem d_TG_formed_5 : decode prog_1_method_16_code 5 = .ok (.invokevirtual 183, 3) := by decide +kernel
theorem d_TG_formed_8 : decode prog_1_method_16_code 8 = .ok (.ireturn, 1) := by decide +kernel
theorem d_Fo_at_0 : decode prog_6_method_2_code 0 = .ok (.iload_n 1, 1) := by decide +kernel
theorem d_Fo_at_1 : decode prog_6_method_2_code 1 = .ok (.ifCond .lt 20, 3) := by decide +kernel
theorem d_Fo_at_4 : decode prog_6_method_2_code 4 = .ok (.iload_n 1, 1) := by decide +kernel
theorem d_Fo_at_5 : decode prog_6_method_2_code 5 = .ok (.aload_n 0, 1) := by decide +kernel
theorem d_Fo_at_6 : decode prog_6_method_2_code 6 = .ok (.getfield 27, 3) := by decide +kernel
theorem d_Fo_at_9 : decode prog_6_method_2_code 9 = .ok (.if_icmp .ge 12, 3) := by decide +kernel
theorem d_Fo_at_12 : decode prog_6_method_2_code 12 = .ok (.aload_n 0, 1) := by decide +kernel
theorem d_Fo_at_13 : decode prog_6_method_2_code 13 = .ok (.getfield 9, 3) := by decide +kernel
theorem d_Fo_at_16 : decode prog_6_method_2_code 16 = .ok (.iload_n 1, 1) := by decide +kernel
theorem d_Fo_at_17 : decode prog_6_method_2_code 17 = .ok (.caload, 1) := by decide +kernel
theorem d_Fo_at_18 : decode prog_6_method_2_code 18 = .ok (.goto 4, 3) := by decide +kernel
theorem d_Fo_at_21 : decode prog_6_method_2_code 21 = .ok (.iconst (-1), 1) := by decide +kernel
theorem d_Fo_at_22 : decode prog_6_method_2_code 22 = .ok (.ireturn, 1) := by decide +kernel
