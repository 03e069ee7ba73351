theorem d_Parser_tableOfQuery_37 : decode prog_6_method_22_code 37 = .ok (.ifCond .lt 7, 3) := by decide +kernel
theorem d_Parser_tableOfQuery_40 : decode prog_6_method_22_code 40 = .ok (.iconst 1, 1) := by decide +kernel
theorem d_Parser_tableOfQuery_41 : decode prog_6_method_22_code 41 = .ok (.goto 4, 3) := by decide +kernel
theorem d_Parser_tableOfQuery_44 : decode prog_6_method_22_code 44 = .ok (.iconst 0, 1) := by decide +kernel
theorem d_Parser_tableOfQuery_45 : decode prog_6_method_22_code 45 = .ok (.ireturn, 1) := by decide +kernel
theorem d_Parser_target_0 : decode prog_6_method_8_code 0 = .ok (.aload_n 0, 1) := by decide +kernel
theorem d_Parser_target_1 : decode prog_6_method_8_code 1 = .ok (.getfield 23, 3) := by decide +kernel
theorem d_Parser_target_4 : decode prog_6_method_8_code 4 = .ok (.aload_n 0, 1) := by decide +kernel
theorem d_Parser_target_5 : decode prog_6_method_8_code 5 = .ok (.getfield 9, 3) := by decide +kernel
theorem d_Parser_target_8 : decode prog_6_method_8_code 8 = .ok (.iconst 1, 1) := by decide +kernel
theorem d_Parser_target_9 : decode prog_6_method_8_code 9 = .ok (.invokevirtual 129, 3) := by decide +kernel
theorem d_Parser_target_12 : decode prog_6_method_8_code 12 = .ok (.putfield 135, 3) := by decide +kernel
theorem d_Parser_target_15 : decode prog_6_method_8_code 15 = .ok (.aload_n 0, 1) := by decide +kernel
theorem d_Parser_target_16 : decode prog_6_method_8_code 16 = .ok (.getfield 23, 3) := by decide +kernel
theorem d_Parser_target_19 : decode prog_6_method_8_code 19 = .ok (.getfield 135, 3) := by decide +kernel
theorem d_Parser_target_22 : decode prog_6_method_8_code 22 = .ok (.ifCond .lt 7, 3) := by decide +kernel
theorem d_Parser_target_25 : decode prog_6_method_8_code 25 = .ok (.iconst 1, 1) := by decide +kernel
theorem d_Parser_target_26 : decode prog_6_method_8_code 26 = .ok (.goto 4, 3) := by decide +kernel
theorem d_Parser_target_29 : decode prog_6_method_8_code 29 = .ok (.iconst 0, 1) := by decide +kernel
theorem d_Parser_target_30 : decode prog_6_method_8_code 30 = .ok (.ireturn, 1) := by decide +kernel
theorem d_Parser_title_0 : decode prog_6_method_7_code 0 = .ok (.aload_n 0, 1) := by decide +kernel
theorem d_Parser_title_1 : decode prog_6_method_7_code 1 = .ok (.getfield 23, 3) := by decide +kernel
theorem d_Parser_title_4 : decode prog_6_method_7_code 4 = .ok (.aload_n 0, 1) := by decide +kernel
theorem d_Parser_title_5 : decode prog_6_method_7_code 5 = .ok (.getfield 9, 3) := by decide +kernel
theorem d_Parser_title_8 : decode prog_6_method_7_code 8 = .ok (.iconst 1, 1) := by decide +kernel
theorem d_Parser_title_9 : decode prog_6_method_7_code 9 = .ok (.invokevirtual 129, 3) := by decide +kernel
theorem d_Parser_title_12 : decode prog_6_method_7_code 12 = .ok (.putfield 133, 3) := by decide +kernel
theorem d_Parser_title_15 : decode prog_6_method_7_code 15 = .ok (.aload_n 0, 1) := by decide +kernel
theorem d_Parser_title_16 : decode prog_6_method_7_code 16 = .ok (.getfield 23, 3) := by decide +kernel
theorem d_Parser_title_19 : decode prog_6_method_7_code 19 = .ok (.getfield 133, 3) := by decide +kernel
theorem d_Parser_title_22 : decode prog_6_method_7_code 22 = .ok (.ifCond .lt 7, 3) := by decide +kernel
theorem d_Parser_title_25 : decode prog_6_method_7_code 25 = .ok (.iconst 1, 1) := by decide +kernel
theorem d_Parser_title_26 : decode prog_6_method_7_code 26 = .ok (.goto 4, 3) := by decide +kernel
theorem d_Parser_title_29 : decode prog_6_method_7_code 29 = .ok (.iconst 0, 1) := by decide +kernel
theorem d_Parser_title_30 : decode prog_6_method_7_code 30 = .ok (.ireturn, 1) := by decide +kernel
theorem d_Parser_typeWord_0 : decode prog_6_method_12_code 0 = .ok (.aload_n 0, 1) := by decide +kernel
theorem d_Parser_typeWord_1 : decode prog_6_method_12_code 1 = .ok (.getfield 9, 3) := by decide +kernel
theorem d_Parser_typeWord_4 : decode prog_6_method_12_code 4 = .ok (.ldc 178, 2) := by decide +kernel
theorem d_Parser_typeWord_6 : decode prog_6_method_12_code 6 = .ok (.invokevirtual 29, 3) := by decide +kernel
theorem d_Parser_typeWord_9 : decode prog_6_method_12_code 9 = .ok (.ifCond .eq 5, 3) := by decide +kernel
theorem d_Parser_typeWord_12 : decode prog_6_method_12_code 12 = .ok (.iconst 1, 1) := by decide +kernel
theorem d_Parser_typeWord_13 : decode prog_6_method_12_code 13 = .ok (.ireturn, 1) := by decide +kernel
theorem d_Parser_typeWord_14 : decode prog_6_method_12_code 14 = .ok (.aload_n 0, 1) := by decide +kernel
theorem d_Parser_typeWord_15 : decode prog_6_method_12_code 15 = .ok (.getfield 9, 3) := by decide +kernel
theorem d_Parser_typeWord_18 : decode prog_6_method_12_code 18 = .ok (.ldc 180, 2) := by decide +kernel
theorem d_Parser_typeWord_20 : decode prog_6_method_12_code 20 = .ok (.invokevirtual 29, 3) := by decide +kernel
theorem d_Parser_typeWord_23 : decode prog_6_method_12_code 23 = .ok (.ifCond .eq 5, 3) := by decide +kernel
theorem d_Parser_typeWord_26 : decode prog_6_method_12_code 26 = .ok (.iconst 2, 1) := by decide +kernel
theorem d_Parser_typeWord_27 : decode prog_6_method_12_code 27 = .ok (.ireturn, 1) := by decide +kernel
theorem d_Parser_typeWord_28 : decode prog_6_method_12_code 28 = .ok (.aload_n 0, 1) := by decide +kernel
theorem d_Parser_typeWord_29 : decode prog_6_method_12_code 29 = .ok (.getfield 9, 3) := by decide +kernel
theorem d_Parser_typeWord_32 : decode prog_6_method_12_code 32 = .ok (.ldc 182, 2) := by decide +kernel
theorem d_Parser_typeWord_34 : decode prog_6_method_12_code 34 = .ok (.invokevirtual 29, 3) := by decide +kernel
theorem d_Parser_typeWord_37 : decode prog_6_method_12_code 37 = .ok (.ifCond .eq 7, 3) := by decide +kernel
theorem d_Parser_typeWord_40 : decode prog_6_method_12_code 40 = .ok (.iconst 3, 1) := by decide +kernel
theorem d_Parser_typeWord_41 : decode prog_6_method_12_code 41 = .ok (.goto 4, 3) := by decide +kernel
theorem d_Parser_typeWord_44 : decode prog_6_method_12_code 44 = .ok (.iconst 0, 1) := by decide +kernel
theorem d_Parser_typeWord_45 : decode prog_6_method_12_code 45 = .ok (.ireturn, 1) := by decide +kernel
theorem d_Parser_update_0 : decode prog_6_method_16_code 0 = .ok (.aload_n 0, 1) := by decide +kernel
theorem d_Parser_update_1 : decode prog_6_method_16_code 1 = .ok (.invokevirtual 55, 3) := by decide +kernel
theorem d_Parser_update_4 : decode prog_6_method_16_code 4 = .ok (.ifCond .eq 26, 3) := by decide +kernel
theorem d_Parser_update_7 : decode prog_6_method_16_code 7 = .ok (.aload_n 0, 1) := by decide +kernel
theorem d_Parser_update_8 : decode prog_6_method_16_code 8 = .ok (.getfield 9, 3) := by decide +kernel
theorem d_Parser_update_11 : decode prog_6_method_16_code 11 = .ok (.ldc 196, 2) := by decide +kernel
theorem d_Parser_update_13 : decode prog_6_method_16_code 13 = .ok (.invokevirtual 29, 3) := by decide +kernel
theorem d_Parser_update_16 : decode prog_6_method_16_code 16 = .ok (.ifCond .eq 14, 3) := by decide +kernel
theorem d_Parser_update_19 : decode prog_6_method_16_code 19 = .ok (.aload_n 0, 1) := by decide +kernel
theorem d_Parser_update_20 : decode prog_6_method_16_code 20 = .ok (.invokevirtual 198, 3) := by decide +kernel
theorem d_Parser_update_23 : decode prog_6_method_16_code 23 = .ok (.ifCond .eq 7, 3) := by decide +kernel
theorem d_Parser_update_26 : decode prog_6_method_16_code 26 = .ok (.iconst 1, 1) := by decide +kernel
theorem d_Parser_update_27 : decode prog_6_method_16_code 27 = .ok (.goto 4, 3) := by decide +kernel
theorem d_Parser_update_30 : decode prog_6_method_16_code 30 = .ok (.iconst 0, 1) := by decide +kernel
theorem d_Parser_update_31 : decode prog_6_method_16_code 31 = .ok (.istore_n 1, 1) := by decide +kernel
theorem d_Parser_update_32 : decode prog_6_method_16_code 32 = .ok (.iconst 0, 1) := by decide +kernel
theorem d_Parser_update_33 : decode prog_6_method_16_code 33 = .ok (.istore_n 2, 1) := by decide +kernel
theorem d_Parser_update_34 : decode prog_6_method_16_code 34 = .ok (.iload_n 2, 1) := by decide +kernel
theorem d_Parser_update_35 : decode prog_6_method_16_code 35 = .ok (.sipush 2000, 3) := by decide +kernel
theorem d_Parser_update_38 : decode prog_6_method_16_code 38 = .ok (.if_icmp .ge 30, 3) := by decide +kernel
theorem d_Parser_update_41 : decode prog_6_method_16_code 41 = .ok (.iload_n 1, 1) := by decide +kernel
theorem d_Parser_update_42 : decode prog_6_method_16_code 42 = .ok (.ifCond .eq 26, 3) := by decide +kernel
theorem d_Parser_update_45 : decode prog_6_method_16_code 45 = .ok (.aload_n 0, 1) := by decide +kernel
theorem d_Parser_update_46 : decode prog_6_method_16_code 46 = .ok (.getfield 9, 3) := by decide +kernel
theorem d_Parser_update_49 : decode prog_6_method_16_code 49 = .ok (.ldc 162, 2) := by decide +kernel
theorem d_Parser_update_51 : decode prog_6_method_16_code 51 = .ok (.invokevirtual 29, 3) := by decide +kernel
theorem d_Parser_update_54 : decode prog_6_method_16_code 54 = .ok (.ifCond .eq 14, 3) := by decide +kernel
theorem d_Parser_update_57 : decode prog_6_method_16_code 57 = .ok (.aload_n 0, 1) := by decide +kernel
theorem d_Parser_update_58 : decode prog_6_method_16_code 58 = .ok (.invokevirtual 198, 3) := by decide +kernel
theorem d_Parser_update_61 : decode prog_6_method_16_code 61 = .ok (.istore_n 1, 1) := by decide +kernel
theorem d_Parser_update_62 : decode prog_6_method_16_code 62 = .ok (.iinc 2 1, 3) := by decide +kernel
theorem d_Parser_update_65 : decode prog_6_method_16_code 65 = .ok (.goto (-31), 3) := by decide +kernel
theorem d_Parser_update_68 : decode prog_6_method_16_code 68 = .ok (.aload_n 0, 1) := by decide +kernel
theorem d_Parser_update_69 : decode prog_6_method_16_code 69 = .ok (.invokevirtual 201, 3) := by decide +kernel
theorem d_Parser_update_72 : decode prog_6_method_16_code 72 = .ok (.iload_n 1, 1) := by decide +kernel
theorem d_Parser_update_73 : decode prog_6_method_16_code 73 = .ok (.ifCond .eq 23, 3) := by decide +kernel
theorem d_Parser_update_76 : decode prog_6_method_16_code 76 = .ok (.aload_n 0, 1) := by decide +kernel
theorem d_Parser_update_77 : decode prog_6_method_16_code 77 = .ok (.invokevirtual 204, 3) := by decide +kernel
theorem d_Parser_update_80 : decode prog_6_method_16_code 80 = .ok (.ifCond .eq 16, 3) := by decide +kernel
theorem d_Parser_update_83 : decode prog_6_method_16_code 83 = .ok (.aload_n 0, 1) := by decide +kernel
theorem d_Parser_update_84 : decode prog_6_method_16_code 84 = .ok (.bipush 6, 2) := by decide +kernel
theorem d_Parser_update_86 : decode prog_6_method_16_code 86 = .ok (.invokevirtual 102, 3) := by decide +kernel
theorem d_Parser_update_89 : decode prog_6_method_16_code 89 = .ok (.ifCond .eq 7, 3) := by decide +kernel
theorem d_Parser_update_92 : decode prog_6_method_16_code 92 = .ok (.iconst 1, 1) := by decide +kernel
theorem d_Parser_update_93 : decode prog_6_method_16_code 93 = .ok (.goto 4, 3) := by decide +kernel
theorem d_Parser_update_96 : decode prog_6_method_16_code 96 = .ok (.iconst 0, 1) := by decide +kernel
theorem d_Parser_update_97 : decode prog_6_method_16_code 97 = .ok (.ireturn, 1) := by decide +kernel
theorem d_Parser_where_0 : decode prog_6_method_23_code 0 = .ok (.aload_n 0, 1) := by decide +kernel
theorem d_Parser_where_1 : decode prog_6_method_23_code 1 = .ok (.getfield 9, 3) := by decide +kernel
theorem d_Parser_where_4 : decode prog_6_method_23_code 4 = .ok (.ldc 242, 2) := by decide +kernel
theorem d_Parser_where_6 : decode prog_6_method_23_code 6 = .ok (.invokevirtual 29, 3) := by decide +kernel
theorem d_Parser_where_9 : decode prog_6_method_23_code 9 = .ok (.ifCond .ne 5, 3) := by decide +kernel
theorem d_Parser_where_12 : decode prog_6_method_23_code 12 = .ok (.iconst 1, 1) := by decide +kernel
theorem d_Parser_where_13 : decode prog_6_method_23_code 13 = .ok (.ireturn, 1) := by decide +kernel
theorem d_Parser_where_14 : decode prog_6_method_23_code 14 = .ok (.aload_n 0, 1) := by decide +kernel
theorem d_Parser_where_15 : decode prog_6_method_23_code 15 = .ok (.getfield 23, 3) := by decide +kernel
theorem d_Parser_where_18 : decode prog_6_method_23_code 18 = .ok (.aload_n 0, 1) := by decide +kernel
theorem d_Parser_where_19 : decode prog_6_method_23_code 19 = .ok (.iconst 1, 1) := by decide +kernel
theorem d_Parser_where_20 : decode prog_6_method_23_code 20 = .ok (.iconst 0, 1) := by decide +kernel
theorem d_Parser_where_21 : decode prog_6_method_23_code 21 = .ok (.invokevirtual 192, 3) := by decide +kernel
theorem d_Parser_where_24 : decode prog_6_method_23_code 24 = .ok (.putfield 244, 3) := by decide +kernel
theorem d_Parser_where_27 : decode prog_6_method_23_code 27 = .ok (.aload_n 0, 1) := by decide +kernel
theorem d_Parser_where_28 : decode prog_6_method_23_code 28 = .ok (.getfield 23, 3) := by decide +kernel
theorem d_Parser_where_31 : decode prog_6_method_23_code 31 = .ok (.getfield 244, 3) := by decide +kernel
theorem d_Parser_where_34 : decode prog_6_method_23_code 34 = .ok (.ifCond .lt 7, 3) := by decide +kernel
theorem d_Parser_where_37 : decode prog_6_method_23_code 37 = .ok (.iconst 1, 1) := by decide +kernel
theorem d_Parser_where_38 : decode prog_6_method_23_code 38 = .ok (.goto 4, 3) := by decide +kernel
theorem d_Parser_where_41 : decode prog_6_method_23_code 41 = .ok (.iconst 0, 1) := by decide +kernel
theorem d_Parser_where_42 : decode prog_6_method_23_code 42 = .ok (.ireturn, 1) := by decide +kernel
theorem d_Parser_wordBehind_0 : decode prog_6_method_42_code 0 = .ok (.aload_n 0, 1) := by decide +kernel
theorem d_Parser_wordBehind_1 : decode prog_6_method_42_code 1 = .ok (.getfield 9, 3) := by decide +kernel
theorem d_Parser_wordBehind_4 : decode prog_6_method_42_code 4 = .ok (.ldc_w 381, 3) := by decide +kernel
theorem d_Parser_wordBehind_7 : decode prog_6_method_42_code 7 = .ok (.invokevirtual 29, 3) := by decide +kernel
theorem d_Parser_wordBehind_10 : decode prog_6_method_42_code 10 = .ok (.ifCond .eq 6, 3) := by decide +kernel
theorem d_Parser_wordBehind_13 : decode prog_6_method_42_code 13 = .ok (.bipush 27, 2) := by decide +kernel
theorem d_Parser_wordBehind_15 : decode prog_6_method_42_code 15 = .ok (.ireturn, 1) := by decide +kernel
theorem d_Parser_wordBehind_16 : decode prog_6_method_42_code 16 = .ok (.aload_n 0, 1) := by decide +kernel
theorem d_Parser_wordBehind_17 : decode prog_6_method_42_code 17 = .ok (.getfield 9, 3) := by decide +kernel
theorem d_Parser_wordBehind_20 : decode prog_6_method_42_code 20 = .ok (.ldc_w 349, 3) := by decide +kernel
theorem d_Parser_wordBehind_23 : decode prog_6_method_42_code 23 = .ok (.invokevirtual 29, 3) := by decide +kernel
theorem d_Parser_wordBehind_26 : decode prog_6_method_42_code 26 = .ok (.ifCond .eq 6, 3) := by decide +kernel
theorem d_Parser_wordBehind_29 : decode prog_6_method_42_code 29 = .ok (.bipush 26, 2) := by decide +kernel
theorem d_Parser_wordBehind_31 : decode prog_6_method_42_code 31 = .ok (.ireturn, 1) := by decide +kernel
theorem d_Parser_wordBehind_32 : decode prog_6_method_42_code 32 = .ok (.aload_n 0, 1) := by decide +kernel
theorem d_Parser_wordBehind_33 : decode prog_6_method_42_code 33 = .ok (.getfield 9, 3) := by decide +kernel
theorem d_Parser_wordBehind_36 : decode prog_6_method_42_code 36 = .ok (.ldc_w 383, 3) := by decide +kernel
theorem d_Parser_wordBehind_39 : decode prog_6_method_42_code 39 = .ok (.invokevirtual 29, 3) := by decide +kernel
theorem d_Parser_wordBehind_42 : decode prog_6_method_42_code 42 = .ok (.ifCond .eq 6, 3) := by decide +kernel
theorem d_Parser_wordBehind_45 : decode prog_6_method_42_code 45 = .ok (.bipush 23, 2) := by decide +kernel
theorem d_Parser_wordBehind_47 : decode prog_6_method_42_code 47 = .ok (.ireturn, 1) := by decide +kernel
theorem d_Parser_wordBehind_48 : decode prog_6_method_42_code 48 = .ok (.aload_n 0, 1) := by decide +kernel
theorem d_Parser_wordBehind_49 : decode prog_6_method_42_code 49 = .ok (.getfield 9, 3) := by decide +kernel
theorem d_Parser_wordBehind_52 : decode prog_6_method_42_code 52 = .ok (.ldc_w 339, 3) := by decide +kernel
theorem d_Parser_wordBehind_55 : decode prog_6_method_42_code 55 = .ok (.invokevirtual 29, 3) := by decide +kernel
theorem d_Parser_wordBehind_58 : decode prog_6_method_42_code 58 = .ok (.ifCond .eq 6, 3) := by decide +kernel
theorem d_Parser_wordBehind_61 : decode prog_6_method_42_code 61 = .ok (.bipush 29, 2) := by decide +kernel
theorem d_Parser_wordBehind_63 : decode prog_6_method_42_code 63 = .ok (.ireturn, 1) := by decide +kernel
theorem d_Parser_wordBehind_64 : decode prog_6_method_42_code 64 = .ok (.aload_n 0, 1) := by decide +kernel
theorem d_Parser_wordBehind_65 : decode prog_6_method_42_code 65 = .ok (.getfield 9, 3) := by decide +kernel
theorem d_Parser_wordBehind_68 : decode prog_6_method_42_code 68 = .ok (.ldc_w 344, 3) := by decide +kernel
theorem d_Parser_wordBehind_71 : decode prog_6_method_42_code 71 = .ok (.invokevirtual 29, 3) := by decide +kernel
theorem d_Parser_wordBehind_74 : decode prog_6_method_42_code 74 = .ok (.ifCond .eq 6, 3) := by decide +kernel
theorem d_Parser_wordBehind_77 : decode prog_6_method_42_code 77 = .ok (.bipush 30, 2) := by decide +kernel
theorem d_Parser_wordBehind_79 : decode prog_6_method_42_code 79 = .ok (.ireturn, 1) := by decide +kernel
theorem d_Parser_wordBehind_80 : decode prog_6_method_42_code 80 = .ok (.aload_n 0, 1) := by decide +kernel
theorem d_Parser_wordBehind_81 : decode prog_6_method_42_code 81 = .ok (.getfield 9, 3) := by decide +kernel
theorem d_Parser_wordBehind_84 : decode prog_6_method_42_code 84 = .ok (.ldc 168, 2) := by decide +kernel
theorem d_Parser_wordBehind_86 : decode prog_6_method_42_code 86 = .ok (.invokevirtual 29, 3) := by decide +kernel
theorem d_Parser_wordBehind_89 : decode prog_6_method_42_code 89 = .ok (.ifCond .eq 8, 3) := by decide +kernel
theorem d_Parser_wordBehind_92 : decode prog_6_method_42_code 92 = .ok (.bipush 31, 2) := by decide +kernel
theorem d_Parser_wordBehind_94 : decode prog_6_method_42_code 94 = .ok (.goto 4, 3) := by decide +kernel
theorem d_Parser_wordBehind_97 : decode prog_6_method_42_code 97 = .ok (.iconst (-1), 1) := by decide +kernel
theorem d_Parser_wordBehind_98 : decode prog_6_method_42_code 98 = .ok (.ireturn, 1) := by decide +kernel
theorem d_Statement_clear_0 : decode prog_7_method_2_code 0 = .ok (.aload_n 0, 1) := by decide +kernel
theorem d_Statement_clear_1 : decode prog_7_method_2_code 1 = .ok (.iconst 0, 1) := by decide +kernel
theorem d_Statement_clear_2 : decode prog_7_method_2_code 2 = .ok (.putfield 12, 3) := by decide +kernel
theorem d_Statement_clear_5 : decode prog_7_method_2_code 5 = .ok (.aload_n 0, 1) := by decide +kernel
theorem d_Statement_clear_6 : decode prog_7_method_2_code 6 = .ok (.iconst 0, 1) := by decide +kernel
theorem d_Statement_clear_7 : decode prog_7_method_2_code 7 = .ok (.putfield 16, 3) := by decide +kernel
theorem d_Statement_clear_10 : decode prog_7_method_2_code 10 = .ok (.aload_n 0, 1) := by decide +kernel
theorem d_Statement_clear_11 : decode prog_7_method_2_code 11 = .ok (.iconst (-1), 1) := by decide +kernel
theorem d_Statement_clear_12 : decode prog_7_method_2_code 12 = .ok (.putfield 19, 3) := by decide +kernel
theorem d_Statement_clear_15 : decode prog_7_method_2_code 15 = .ok (.aload_n 0, 1) := by decide +kernel
theorem d_Statement_clear_16 : decode prog_7_method_2_code 16 = .ok (.iconst (-1), 1) := by decide +kernel
theorem d_Statement_clear_17 : decode prog_7_method_2_code 17 = .ok (.putfield 22, 3) := by decide +kernel
theorem d_Statement_clear_20 : decode prog_7_method_2_code 20 = .ok (.aload_n 0, 1) := by decide +kernel
theorem d_Statement_clear_21 : decode prog_7_method_2_code 21 = .ok (.iconst (-1), 1) := by decide +kernel
theorem d_Statement_clear_22 : decode prog_7_method_2_code 22 = .ok (.putfield 25, 3) := by decide +kernel
theorem d_Statement_clear_25 : decode prog_7_method_2_code 25 = .ok (.aload_n 0, 1) := by decide +kernel
theorem d_Statement_clear_26 : decode prog_7_method_2_code 26 = .ok (.iconst (-1), 1) := by decide +kernel
theorem d_Statement_clear_27 : decode prog_7_method_2_code 27 = .ok (.putfield 28, 3) := by decide +kernel
theorem d_Statement_clear_30 : decode prog_7_method_2_code 30 = .ok (.aload_n 0, 1) := by decide +kernel
theorem d_Statement_clear_31 : decode prog_7_method_2_code 31 = .ok (.iconst (-1), 1) := by decide +kernel
theorem d_Statement_clear_32 : decode prog_7_method_2_code 32 = .ok (.putfield 31, 3) := by decide +kernel
theorem d_Statement_clear_35 : decode prog_7_method_2_code 35 = .ok (.aload_n 0, 1) := by decide +kernel
theorem d_Statement_clear_36 : decode prog_7_method_2_code 36 = .ok (.iconst 0, 1) := by decide +kernel
theorem d_Statement_clear_37 : decode prog_7_method_2_code 37 = .ok (.putfield 34, 3) := by decide +kernel
theorem d_Statement_clear_40 : decode prog_7_method_2_code 40 = .ok (.aload_n 0, 1) := by decide +kernel
theorem d_Statement_clear_41 : decode prog_7_method_2_code 41 = .ok (.iconst (-1), 1) := by decide +kernel
theorem d_Statement_clear_42 : decode prog_7_method_2_code 42 = .ok (.putfield 37, 3) := by decide +kernel
theorem d_Statement_clear_45 : decode prog_7_method_2_code 45 = .ok (.aload_n 0, 1) := by decide +kernel
theorem d_Statement_clear_46 : decode prog_7_method_2_code 46 = .ok (.iconst (-1), 1) := by decide +kernel
theorem d_Statement_clear_47 : decode prog_7_method_2_code 47 = .ok (.putfield 40, 3) := by decide +kernel
theorem d_Statement_clear_50 : decode prog_7_method_2_code 50 = .ok (.aload_n 0, 1) := by decide +kernel
theorem d_Statement_clear_51 : decode prog_7_method_2_code 51 = .ok (.iconst 0, 1) := by decide +kernel
theorem d_Statement_clear_52 : decode prog_7_method_2_code 52 = .ok (.putfield 43, 3) := by decide +kernel
theorem d_Statement_clear_55 : decode prog_7_method_2_code 55 = .ok (.aload_n 0, 1) := by decide +kernel
theorem d_Statement_clear_56 : decode prog_7_method_2_code 56 = .ok (.iconst 0, 1) := by decide +kernel
theorem d_Statement_clear_57 : decode prog_7_method_2_code 57 = .ok (.putfield 47, 3) := by decide +kernel
theorem d_Statement_clear_60 : decode prog_7_method_2_code 60 = .ok (.aload_n 0, 1) := by decide +kernel
theorem d_Statement_clear_61 : decode prog_7_method_2_code 61 = .ok (.iconst 0, 1) := by decide +kernel
theorem d_Statement_clear_62 : decode prog_7_method_2_code 62 = .ok (.putfield 50, 3) := by decide +kernel
theorem d_Statement_clear_65 : decode prog_7_method_2_code 65 = .ok (.return_, 1) := by decide +kernel
theorem d_Text_append_0 : decode prog_8_method_12_code 0 = .ok (.iload_n 3, 1) := by decide +kernel
theorem d_Text_append_1 : decode prog_8_method_12_code 1 = .ok (.iconst 1, 1) := by decide +kernel
theorem d_Text_append_2 : decode prog_8_method_12_code 2 = .ok (.if_icmp .lt 21, 3) := by decide +kernel
theorem d_Text_append_5 : decode prog_8_method_12_code 5 = .ok (.iload_n 3, 1) := by decide +kernel
theorem d_Text_append_6 : decode prog_8_method_12_code 6 = .ok (.bipush 8, 2) := by decide +kernel
theorem d_Text_append_8 : decode prog_8_method_12_code 8 = .ok (.if_icmp .gt 15, 3) := by decide +kernel
theorem d_Text_append_11 : decode prog_8_method_12_code 11 = .ok (.aload_n 0, 1) := by decide +kernel
theorem d_Text_append_12 : decode prog_8_method_12_code 12 = .ok (.getfield 20, 3) := by decide +kernel
theorem d_Text_append_15 : decode prog_8_method_12_code 15 = .ok (.sipush 2000, 3) := by decide +kernel
theorem d_Text_append_18 : decode prog_8_method_12_code 18 = .ok (.iload_n 3, 1) := by decide +kernel
theorem d_Text_append_19 : decode prog_8_method_12_code 19 = .ok (.isub, 1) := by decide +kernel
theorem d_Text_append_20 : decode prog_8_method_12_code 20 = .ok (.if_icmp .le 5, 3) := by decide +kernel
theorem d_Text_append_23 : decode prog_8_method_12_code 23 = .ok (.iconst 0, 1) := by decide +kernel
theorem d_Text_append_24 : decode prog_8_method_12_code 24 = .ok (.ireturn, 1) := by decide +kernel
theorem d_Text_append_25 : decode prog_8_method_12_code 25 = .ok (.iload_n 3, 1) := by decide +kernel
theorem d_Text_append_26 : decode prog_8_method_12_code 26 = .ok (.iconst 1, 1) := by decide +kernel
theorem d_Text_append_27 : decode prog_8_method_12_code 27 = .ok (.isub, 1) := by decide +kernel
theorem d_Text_append_28 : decode prog_8_method_12_code 28 = .ok (.istore 4, 2) := by decide +kernel
theorem d_Text_append_30 : decode prog_8_method_12_code 30 = .ok (.iload 4, 2) := by decide +kernel
theorem d_Text_append_32 : decode prog_8_method_12_code 32 = .ok (.ifCond .lt 37, 3) := by decide +kernel
theorem d_Text_append_35 : decode prog_8_method_12_code 35 = .ok (.aload_n 0, 1) := by decide +kernel
theorem d_Text_append_36 : decode prog_8_method_12_code 36 = .ok (.getfield 9, 3) := by decide +kernel
theorem d_Text_append_39 : decode prog_8_method_12_code 39 = .ok (.aload_n 0, 1) := by decide +kernel
theorem d_Text_append_40 : decode prog_8_method_12_code 40 = .ok (.getfield 20, 3) := by decide +kernel
theorem d_Text_append_43 : decode prog_8_method_12_code 43 = .ok (.lload_n 1, 1) := by decide +kernel
theorem d_Text_append_44 : decode prog_8_method_12_code 44 = .ok (.bipush 8, 2) := by decide +kernel
theorem d_Text_append_46 : decode prog_8_method_12_code 46 = .ok (.iload 4, 2) := by decide +kernel
theorem d_Text_append_48 : decode prog_8_method_12_code 48 = .ok (.imul, 1) := by decide +kernel
theorem d_Text_append_49 : decode prog_8_method_12_code 49 = .ok (.lushr, 1) := by decide +kernel
theorem d_Text_append_50 : decode prog_8_method_12_code 50 = .ok (.l2i, 1) := by decide +kernel
theorem d_Text_append_51 : decode prog_8_method_12_code 51 = .ok (.i2b, 1) := by decide +kernel
theorem d_Text_append_52 : decode prog_8_method_12_code 52 = .ok (.bastore, 1) := by decide +kernel
theorem d_Text_append_53 : decode prog_8_method_12_code 53 = .ok (.aload_n 0, 1) := by decide +kernel
theorem d_Text_append_54 : decode prog_8_method_12_code 54 = .ok (.dup, 1) := by decide +kernel
theorem d_Text_append_55 : decode prog_8_method_12_code 55 = .ok (.getfield 20, 3) := by decide +kernel
theorem d_Text_append_58 : decode prog_8_method_12_code 58 = .ok (.iconst 1, 1) := by decide +kernel
theorem d_Text_append_59 : decode prog_8_method_12_code 59 = .ok (.iadd, 1) := by decide +kernel
theorem d_Text_append_60 : decode prog_8_method_12_code 60 = .ok (.putfield 20, 3) := by decide +kernel
theorem d_Text_append_63 : decode prog_8_method_12_code 63 = .ok (.iinc 4 (-1), 3) := by decide +kernel
theorem d_Text_append_66 : decode prog_8_method_12_code 66 = .ok (.goto (-36), 3) := by decide +kernel
theorem d_Text_append_69 : decode prog_8_method_12_code 69 = .ok (.iconst 1, 1) := by decide +kernel
theorem d_Text_append_70 : decode prog_8_method_12_code 70 = .ok (.ireturn, 1) := by decide +kernel
theorem d_Text_at_0 : decode prog_8_method_10_code 0 = .ok (.iload_n 1, 1) := by decide +kernel
theorem d_Text_at_1 : decode prog_8_method_10_code 1 = .ok (.ifCond .lt 11, 3) := by decide +kernel
theorem d_Text_at_4 : decode prog_8_method_10_code 4 = .ok (.iload_n 1, 1) := by decide +kernel
theorem d_Text_at_5 : decode prog_8_method_10_code 5 = .ok (.aload_n 0, 1) := by decide +kernel
theorem d_Text_at_6 : decode prog_8_method_10_code 6 = .ok (.getfield 20, 3) := by decide +kernel
theorem d_Text_at_9 : decode prog_8_method_10_code 9 = .ok (.if_icmp .lt 7, 3) := by decide +kernel
theorem d_Text_at_12 : decode prog_8_method_10_code 12 = .ok (.iconst (-1), 1) := by decide +kernel
theorem d_Text_at_13 : decode prog_8_method_10_code 13 = .ok (.goto 13, 3) := by decide +kernel
theorem d_Text_at_16 : decode prog_8_method_10_code 16 = .ok (.aload_n 0, 1) := by decide +kernel
theorem d_Text_at_17 : decode prog_8_method_10_code 17 = .ok (.getfield 9, 3) := by decide +kernel
theorem d_Text_at_20 : decode prog_8_method_10_code 20 = .ok (.iload_n 1, 1) := by decide +kernel
theorem d_Text_at_21 : decode prog_8_method_10_code 21 = .ok (.baload, 1) := by decide +kernel
theorem d_Text_at_22 : decode prog_8_method_10_code 22 = .ok (.sipush 255, 3) := by decide +kernel
theorem d_Text_at_25 : decode prog_8_method_10_code 25 = .ok (.iand, 1) := by decide +kernel
theorem d_Text_at_26 : decode prog_8_method_10_code 26 = .ok (.ireturn, 1) := by decide +kernel
theorem d_Text_clear_0 : decode prog_8_method_9_code 0 = .ok (.aload_n 0, 1) := by decide +kernel
theorem d_Text_clear_1 : decode prog_8_method_9_code 1 = .ok (.iconst 0, 1) := by decide +kernel
theorem d_Text_clear_2 : decode prog_8_method_9_code 2 = .ok (.putfield 20, 3) := by decide +kernel
theorem d_Text_clear_5 : decode prog_8_method_9_code 5 = .ok (.return_, 1) := by decide +kernel
theorem d_Text_copy_0 : decode prog_8_method_13_code 0 = .ok (.aload_n 1, 1) := by decide +kernel
theorem d_Text_copy_1 : decode prog_8_method_13_code 1 = .ok (.getfield 9, 3) := by decide +kernel
theorem d_Text_copy_4 : decode prog_8_method_13_code 4 = .ok (.iconst 0, 1) := by decide +kernel
theorem d_Text_copy_5 : decode prog_8_method_13_code 5 = .ok (.aload_n 0, 1) := by decide +kernel
theorem d_Text_copy_6 : decode prog_8_method_13_code 6 = .ok (.getfield 9, 3) := by decide +kernel
theorem d_Text_copy_9 : decode prog_8_method_13_code 9 = .ok (.iconst 0, 1) := by decide +kernel
theorem d_Text_copy_10 : decode prog_8_method_13_code 10 = .ok (.aload_n 1, 1) := by decide +kernel
theorem d_Text_copy_11 : decode prog_8_method_13_code 11 = .ok (.getfield 20, 3) := by decide +kernel
theorem d_Text_copy_14 : decode prog_8_method_13_code 14 = .ok (.invokestatic 24, 3) := by decide +kernel
theorem d_Text_copy_17 : decode prog_8_method_13_code 17 = .ok (.aload_n 0, 1) := by decide +kernel
theorem d_Text_copy_18 : decode prog_8_method_13_code 18 = .ok (.aload_n 1, 1) := by decide +kernel
theorem d_Text_copy_19 : decode prog_8_method_13_code 19 = .ok (.getfield 20, 3) := by decide +kernel
theorem d_Text_copy_22 : decode prog_8_method_13_code 22 = .ok (.putfield 20, 3) := by decide +kernel
theorem d_Text_copy_25 : decode prog_8_method_13_code 25 = .ok (.return_, 1) := by decide +kernel
theorem d_Text_isDigit_0 : decode prog_8_method_6_code 0 = .ok (.iload_n 0, 1) := by decide +kernel
theorem d_Text_isDigit_1 : decode prog_8_method_6_code 1 = .ok (.bipush 48, 2) := by decide +kernel
theorem d_Text_isDigit_3 : decode prog_8_method_6_code 3 = .ok (.if_icmp .lt 13, 3) := by decide +kernel
theorem d_Text_isDigit_6 : decode prog_8_method_6_code 6 = .ok (.iload_n 0, 1) := by decide +kernel
theorem d_Text_isDigit_7 : decode prog_8_method_6_code 7 = .ok (.bipush 57, 2) := by decide +kernel
theorem d_Text_isDigit_9 : decode prog_8_method_6_code 9 = .ok (.if_icmp .gt 7, 3) := by decide +kernel
theorem d_Text_isDigit_12 : decode prog_8_method_6_code 12 = .ok (.iconst 1, 1) := by decide +kernel
theorem d_Text_isDigit_13 : decode prog_8_method_6_code 13 = .ok (.goto 4, 3) := by decide +kernel
theorem d_Text_isDigit_16 : decode prog_8_method_6_code 16 = .ok (.iconst 0, 1) := by decide +kernel
theorem d_Text_isDigit_17 : decode prog_8_method_6_code 17 = .ok (.ireturn, 1) := by decide +kernel
theorem d_Text_isName_0 : decode prog_8_method_15_code 0 = .ok (.aload_n 0, 1) := by decide +kernel
theorem d_Text_isName_1 : decode prog_8_method_15_code 1 = .ok (.getfield 20, 3) := by decide +kernel
theorem d_Text_isName_4 : decode prog_8_method_15_code 4 = .ok (.bipush 16, 2) := by decide +kernel
theorem d_Text_isName_6 : decode prog_8_method_15_code 6 = .ok (.if_icmp .gt 14, 3) := by decide +kernel
theorem d_Text_isName_9 : decode prog_8_method_15_code 9 = .ok (.aload_n 0, 1) := by decide +kernel
theorem d_Text_isName_10 : decode prog_8_method_15_code 10 = .ok (.iconst 0, 1) := by decide +kernel
theorem d_Text_isName_11 : decode prog_8_method_15_code 11 = .ok (.invokevirtual 34, 3) := by decide +kernel
theorem d_Text_isName_14 : decode prog_8_method_15_code 14 = .ok (.invokestatic 13, 3) := by decide +kernel
theorem d_Text_isName_17 : decode prog_8_method_15_code 17 = .ok (.ifCond .ne 5, 3) := by decide +kernel
theorem d_Text_isName_20 : decode prog_8_method_15_code 20 = .ok (.iconst 0, 1) := by decide +kernel
theorem d_Text_isName_21 : decode prog_8_method_15_code 21 = .ok (.ireturn, 1) := by decide +kernel
theorem d_Text_isName_22 : decode prog_8_method_15_code 22 = .ok (.iconst 1, 1) := by decide +kernel
theorem d_Text_isName_23 : decode prog_8_method_15_code 23 = .ok (.istore_n 1, 1) := by decide +kernel
theorem d_Text_isName_24 : decode prog_8_method_15_code 24 = .ok (.iload_n 1, 1) := by decide +kernel
theorem d_Text_isName_25 : decode prog_8_method_15_code 25 = .ok (.aload_n 0, 1) := by decide +kernel
theorem d_Text_isName_26 : decode prog_8_method_15_code 26 = .ok (.getfield 20, 3) := by decide +kernel
theorem d_Text_isName_29 : decode prog_8_method_15_code 29 = .ok (.if_icmp .ge 22, 3) := by decide +kernel
theorem d_Text_isName_32 : decode prog_8_method_15_code 32 = .ok (.aload_n 0, 1) := by decide +kernel
theorem d_Text_isName_33 : decode prog_8_method_15_code 33 = .ok (.iload_n 1, 1) := by decide +kernel
theorem d_Text_isName_34 : decode prog_8_method_15_code 34 = .ok (.invokevirtual 34, 3) := by decide +kernel
theorem d_Text_isName_37 : decode prog_8_method_15_code 37 = .ok (.invokestatic 38, 3) := by decide +kernel
theorem d_Text_isName_40 : decode prog_8_method_15_code 40 = .ok (.ifCond .ne 5, 3) := by decide +kernel
theorem d_Text_isName_43 : decode prog_8_method_15_code 43 = .ok (.iconst 0, 1) := by decide +kernel
theorem d_Text_isName_44 : decode prog_8_method_15_code 44 = .ok (.ireturn, 1) := by decide +kernel
theorem d_Text_isName_45 : decode prog_8_method_15_code 45 = .ok (.iinc 1 1, 3) := by decide +kernel
theorem d_Text_isName_48 : decode prog_8_method_15_code 48 = .ok (.goto (-24), 3) := by decide +kernel
theorem d_Text_isName_51 : decode prog_8_method_15_code 51 = .ok (.iconst 1, 1) := by decide +kernel
theorem d_Text_isName_52 : decode prog_8_method_15_code 52 = .ok (.ireturn, 1) := by decide +kernel
theorem d_Text_isOfName_0 : decode prog_8_method_7_code 0 = .ok (.iload_n 0, 1) := by decide +kernel
theorem d_Text_isOfName_1 : decode prog_8_method_7_code 1 = .ok (.invokestatic 13, 3) := by decide +kernel
theorem d_Text_isOfName_4 : decode prog_8_method_7_code 4 = .ok (.ifCond .ne 16, 3) := by decide +kernel
theorem d_Text_isOfName_7 : decode prog_8_method_7_code 7 = .ok (.iload_n 0, 1) := by decide +kernel
theorem d_Text_isOfName_8 : decode prog_8_method_7_code 8 = .ok (.invokestatic 17, 3) := by decide +kernel
theorem d_Text_isOfName_11 : decode prog_8_method_7_code 11 = .ok (.ifCond .ne 9, 3) := by decide +kernel
theorem d_Text_isOfName_14 : decode prog_8_method_7_code 14 = .ok (.iload_n 0, 1) := by decide +kernel
theorem d_Text_isOfName_15 : decode prog_8_method_7_code 15 = .ok (.bipush 95, 2) := by decide +kernel
theorem d_Text_isOfName_17 : decode prog_8_method_7_code 17 = .ok (.if_icmp .ne 7, 3) := by decide +kernel
theorem d_Text_isOfName_20 : decode prog_8_method_7_code 20 = .ok (.iconst 1, 1) := by decide +kernel
theorem d_Text_isOfName_21 : decode prog_8_method_7_code 21 = .ok (.goto 4, 3) := by decide +kernel
theorem d_Text_isOfName_24 : decode prog_8_method_7_code 24 = .ok (.iconst 0, 1) := by decide +kernel
theorem d_Text_isOfName_25 : decode prog_8_method_7_code 25 = .ok (.ireturn, 1) := by decide +kernel
theorem d_Text_isSmall_0 : decode prog_8_method_5_code 0 = .ok (.iload_n 0, 1) := by decide +kernel
theorem d_Text_isSmall_1 : decode prog_8_method_5_code 1 = .ok (.bipush 97, 2) := by decide +kernel
theorem d_Text_isSmall_3 : decode prog_8_method_5_code 3 = .ok (.if_icmp .lt 13, 3) := by decide +kernel
theorem d_Text_isSmall_6 : decode prog_8_method_5_code 6 = .ok (.iload_n 0, 1) := by decide +kernel
theorem d_Text_isSmall_7 : decode prog_8_method_5_code 7 = .ok (.bipush 122, 2) := by decide +kernel
theorem d_Text_isSmall_9 : decode prog_8_method_5_code 9 = .ok (.if_icmp .gt 7, 3) := by decide +kernel
theorem d_Text_isSmall_12 : decode prog_8_method_5_code 12 = .ok (.iconst 1, 1) := by decide +kernel
theorem d_Text_isSmall_13 : decode prog_8_method_5_code 13 = .ok (.goto 4, 3) := by decide +kernel
theorem d_Text_isSmall_16 : decode prog_8_method_5_code 16 = .ok (.iconst 0, 1) := by decide +kernel
theorem d_Text_isSmall_17 : decode prog_8_method_5_code 17 = .ok (.ireturn, 1) := by decide +kernel
theorem d_Text_keep_0 : decode prog_8_method_14_code 0 = .ok (.aload_n 0, 1) := by decide +kernel
theorem d_Text_keep_1 : decode prog_8_method_14_code 1 = .ok (.getfield 20, 3) := by decide +kernel
theorem d_Text_keep_4 : decode prog_8_method_14_code 4 = .ok (.istore_n 2, 1) := by decide +kernel
theorem d_Text_keep_5 : decode prog_8_method_14_code 5 = .ok (.iconst 0, 1) := by decide +kernel
theorem d_Text_keep_6 : decode prog_8_method_14_code 6 = .ok (.istore_n 3, 1) := by decide +kernel
theorem d_Text_keep_7 : decode prog_8_method_14_code 7 = .ok (.iload_n 3, 1) := by decide +kernel
theorem d_Text_keep_8 : decode prog_8_method_14_code 8 = .ok (.aload_n 1, 1) := by decide +kernel
theorem d_Text_keep_9 : decode prog_8_method_14_code 9 = .ok (.getfield 20, 3) := by decide +kernel
theorem d_Text_keep_12 : decode prog_8_method_14_code 12 = .ok (.if_icmp .ge 44, 3) := by decide +kernel
theorem d_Text_keep_15 : decode prog_8_method_14_code 15 = .ok (.aload_n 0, 1) := by decide +kernel
theorem d_Text_keep_16 : decode prog_8_method_14_code 16 = .ok (.getfield 20, 3) := by decide +kernel
theorem d_Text_keep_19 : decode prog_8_method_14_code 19 = .ok (.sipush 2000, 3) := by decide +kernel
theorem d_Text_keep_22 : decode prog_8_method_14_code 22 = .ok (.if_icmp .ge 34, 3) := by decide +kernel
theorem d_Text_keep_25 : decode prog_8_method_14_code 25 = .ok (.aload_n 0, 1) := by decide +kernel
theorem d_Text_keep_26 : decode prog_8_method_14_code 26 = .ok (.getfield 9, 3) := by decide +kernel
theorem d_Text_keep_29 : decode prog_8_method_14_code 29 = .ok (.aload_n 0, 1) := by decide +kernel
theorem d_Text_keep_30 : decode prog_8_method_14_code 30 = .ok (.getfield 20, 3) := by decide +kernel
theorem d_Text_keep_33 : decode prog_8_method_14_code 33 = .ok (.aload_n 1, 1) := by decide +kernel
theorem d_Text_keep_34 : decode prog_8_method_14_code 34 = .ok (.getfield 9, 3) := by decide +kernel
theorem d_Text_keep_37 : decode prog_8_method_14_code 37 = .ok (.iload_n 3, 1) := by decide +kernel
theorem d_Text_keep_38 : decode prog_8_method_14_code 38 = .ok (.baload, 1) := by decide +kernel
theorem d_Text_keep_39 : decode prog_8_method_14_code 39 = .ok (.bastore, 1) := by decide +kernel
theorem d_Text_keep_40 : decode prog_8_method_14_code 40 = .ok (.aload_n 0, 1) := by decide +kernel
theorem d_Text_keep_41 : decode prog_8_method_14_code 41 = .ok (.dup, 1) := by decide +kernel
theorem d_Text_keep_42 : decode prog_8_method_14_code 42 = .ok (.getfield 20, 3) := by decide +kernel
theorem d_Text_keep_45 : decode prog_8_method_14_code 45 = .ok (.iconst 1, 1) := by decide +kernel
theorem d_Text_keep_46 : decode prog_8_method_14_code 46 = .ok (.iadd, 1) := by decide +kernel
theorem d_Text_keep_47 : decode prog_8_method_14_code 47 = .ok (.putfield 20, 3) := by decide +kernel
theorem d_Text_keep_50 : decode prog_8_method_14_code 50 = .ok (.iinc 3 1, 3) := by decide +kernel
theorem d_Text_keep_53 : decode prog_8_method_14_code 53 = .ok (.goto (-46), 3) := by decide +kernel
theorem d_Text_keep_56 : decode prog_8_method_14_code 56 = .ok (.iload_n 2, 1) := by decide +kernel
theorem d_Text_keep_57 : decode prog_8_method_14_code 57 = .ok (.aload_n 0, 1) := by decide +kernel
theorem d_Text_keep_58 : decode prog_8_method_14_code 58 = .ok (.getfield 20, 3) := by decide +kernel
theorem d_Text_keep_61 : decode prog_8_method_14_code 61 = .ok (.iload_n 2, 1) := by decide +kernel
theorem d_Text_keep_62 : decode prog_8_method_14_code 62 = .ok (.isub, 1) := by decide +kernel
theorem d_Text_keep_63 : decode prog_8_method_14_code 63 = .ok (.invokestatic 30, 3) := by decide +kernel
theorem d_Text_keep_66 : decode prog_8_method_14_code 66 = .ok (.ireturn, 1) := by decide +kernel
theorem d_Text_letterAt_0 : decode prog_8_method_16_code 0 = .ok (.iload_n 2, 1) := by decide +kernel
theorem d_Text_letterAt_1 : decode prog_8_method_16_code 1 = .ok (.ifCond .lt 11, 3) := by decide +kernel
theorem d_Text_letterAt_4 : decode prog_8_method_16_code 4 = .ok (.iload_n 2, 1) := by decide +kernel
theorem d_Text_letterAt_5 : decode prog_8_method_16_code 5 = .ok (.iload_n 1, 1) := by decide +kernel
theorem d_Text_letterAt_6 : decode prog_8_method_16_code 6 = .ok (.invokestatic 41, 3) := by decide +kernel
theorem d_Text_letterAt_9 : decode prog_8_method_16_code 9 = .ok (.if_icmp .lt 7, 3) := by decide +kernel
theorem d_Text_letterAt_12 : decode prog_8_method_16_code 12 = .ok (.iconst (-1), 1) := by decide +kernel
theorem d_Text_letterAt_13 : decode prog_8_method_16_code 13 = .ok (.goto 13, 3) := by decide +kernel
theorem d_Text_letterAt_16 : decode prog_8_method_16_code 16 = .ok (.aload_n 0, 1) := by decide +kernel
theorem d_Text_letterAt_17 : decode prog_8_method_16_code 17 = .ok (.iload_n 1, 1) := by decide +kernel
theorem d_Text_letterAt_18 : decode prog_8_method_16_code 18 = .ok (.invokestatic 44, 3) := by decide +kernel
theorem d_Text_letterAt_21 : decode prog_8_method_16_code 21 = .ok (.iload_n 2, 1) := by decide +kernel
theorem d_Text_letterAt_22 : decode prog_8_method_16_code 22 = .ok (.iadd, 1) := by decide +kernel
theorem d_Text_letterAt_23 : decode prog_8_method_16_code 23 = .ok (.invokevirtual 34, 3) := by decide +kernel
theorem d_Text_letterAt_26 : decode prog_8_method_16_code 26 = .ok (.ireturn, 1) := by decide +kernel
theorem d_Text_put_0 : decode prog_8_method_11_code 0 = .ok (.iload_n 1, 1) := by decide +kernel
theorem d_Text_put_1 : decode prog_8_method_11_code 1 = .ok (.ifCond .lt 19, 3) := by decide +kernel
theorem d_Text_put_4 : decode prog_8_method_11_code 4 = .ok (.iload_n 1, 1) := by decide +kernel
theorem d_Text_put_5 : decode prog_8_method_11_code 5 = .ok (.aload_n 0, 1) := by decide +kernel
theorem d_Text_put_6 : decode prog_8_method_11_code 6 = .ok (.getfield 20, 3) := by decide +kernel
theorem d_Text_put_9 : decode prog_8_method_11_code 9 = .ok (.if_icmp .ge 11, 3) := by decide +kernel
theorem d_Text_put_12 : decode prog_8_method_11_code 12 = .ok (.aload_n 0, 1) := by decide +kernel
theorem d_Text_put_13 : decode prog_8_method_11_code 13 = .ok (.getfield 9, 3) := by decide +kernel
theorem d_Text_put_16 : decode prog_8_method_11_code 16 = .ok (.iload_n 1, 1) := by decide +kernel
theorem d_Text_put_17 : decode prog_8_method_11_code 17 = .ok (.iload_n 2, 1) := by decide +kernel
theorem d_Text_put_18 : decode prog_8_method_11_code 18 = .ok (.i2b, 1) := by decide +kernel
theorem d_Text_put_19 : decode prog_8_method_11_code 19 = .ok (.bastore, 1) := by decide +kernel
theorem d_Text_put_20 : decode prog_8_method_11_code 20 = .ok (.return_, 1) := by decide +kernel
theorem d_Text_same_0 : decode prog_8_method_17_code 0 = .ok (.iload_n 1, 1) := by decide +kernel
theorem d_Text_same_1 : decode prog_8_method_17_code 1 = .ok (.invokestatic 41, 3) := by decide +kernel
theorem d_Text_same_4 : decode prog_8_method_17_code 4 = .ok (.istore 4, 2) := by decide +kernel
theorem d_Text_same_6 : decode prog_8_method_17_code 6 = .ok (.iload 4, 2) := by decide +kernel
theorem d_Text_same_8 : decode prog_8_method_17_code 8 = .ok (.iload_n 3, 1) := by decide +kernel
theorem d_Text_same_9 : decode prog_8_method_17_code 9 = .ok (.invokestatic 41, 3) := by decide +kernel
theorem d_Text_same_12 : decode prog_8_method_17_code 12 = .ok (.if_icmp .eq 5, 3) := by decide +kernel
theorem d_Text_same_15 : decode prog_8_method_17_code 15 = .ok (.iconst 0, 1) := by decide +kernel
theorem d_Text_same_16 : decode prog_8_method_17_code 16 = .ok (.ireturn, 1) := by decide +kernel
theorem d_Text_same_17 : decode prog_8_method_17_code 17 = .ok (.iconst 0, 1) := by decide +kernel
theorem d_Text_same_18 : decode prog_8_method_17_code 18 = .ok (.istore 5, 2) := by decide +kernel
theorem d_Text_same_20 : decode prog_8_method_17_code 20 = .ok (.iload 5, 2) := by decide +kernel
theorem d_Text_same_22 : decode prog_8_method_17_code 22 = .ok (.iload 4, 2) := by decide +kernel
theorem d_Text_same_24 : decode prog_8_method_17_code 24 = .ok (.if_icmp .ge 36, 3) := by decide +kernel
theorem d_Text_same_27 : decode prog_8_method_17_code 27 = .ok (.aload_n 0, 1) := by decide +kernel
theorem d_Text_same_28 : decode prog_8_method_17_code 28 = .ok (.iload_n 1, 1) := by decide +kernel
theorem d_Text_same_29 : decode prog_8_method_17_code 29 = .ok (.invokestatic 44, 3) := by decide +kernel
theorem d_Text_same_32 : decode prog_8_method_17_code 32 = .ok (.iload 5, 2) := by decide +kernel
theorem d_Text_same_34 : decode prog_8_method_17_code 34 = .ok (.iadd, 1) := by decide +kernel
theorem d_Text_same_35 : decode prog_8_method_17_code 35 = .ok (.invokevirtual 34, 3) := by decide +kernel
theorem d_Text_same_38 : decode prog_8_method_17_code 38 = .ok (.aload_n 2, 1) := by decide +kernel
theorem d_Text_same_39 : decode prog_8_method_17_code 39 = .ok (.iload_n 3, 1) := by decide +kernel
theorem d_Text_same_40 : decode prog_8_method_17_code 40 = .ok (.invokestatic 44, 3) := by decide +kernel
theorem d_Text_same_43 : decode prog_8_method_17_code 43 = .ok (.iload 5, 2) := by decide +kernel
theorem d_Text_same_45 : decode prog_8_method_17_code 45 = .ok (.iadd, 1) := by decide +kernel
theorem d_Text_same_46 : decode prog_8_method_17_code 46 = .ok (.invokevirtual 34, 3) := by decide +kernel
theorem d_Text_same_49 : decode prog_8_method_17_code 49 = .ok (.if_icmp .eq 5, 3) := by decide +kernel
theorem d_Text_same_52 : decode prog_8_method_17_code 52 = .ok (.iconst 0, 1) := by decide +kernel
theorem d_Text_same_53 : decode prog_8_method_17_code 53 = .ok (.ireturn, 1) := by decide +kernel
theorem d_Text_same_54 : decode prog_8_method_17_code 54 = .ok (.iinc 5 1, 3) := by decide +kernel
theorem d_Text_same_57 : decode prog_8_method_17_code 57 = .ok (.goto (-37), 3) := by decide +kernel
theorem d_Text_same_60 : decode prog_8_method_17_code 60 = .ok (.iconst 1, 1) := by decide +kernel
theorem d_Text_same_61 : decode prog_8_method_17_code 61 = .ok (.ireturn, 1) := by decide +kernel
theorem d_Text_size_0 : decode prog_8_method_8_code 0 = .ok (.aload_n 0, 1) := by decide +kernel
theorem d_Text_size_1 : decode prog_8_method_8_code 1 = .ok (.getfield 20, 3) := by decide +kernel
theorem d_Text_size_4 : decode prog_8_method_8_code 4 = .ok (.ireturn, 1) := by decide +kernel
theorem d_Text_sizeOf_0 : decode prog_8_method_4_code 0 = .ok (.iload_n 0, 1) := by decide +kernel
theorem d_Text_sizeOf_1 : decode prog_8_method_4_code 1 = .ok (.ifCond .ge 7, 3) := by decide +kernel
theorem d_Text_sizeOf_4 : decode prog_8_method_4_code 4 = .ok (.iconst 0, 1) := by decide +kernel
theorem d_Text_sizeOf_5 : decode prog_8_method_4_code 5 = .ok (.goto 7, 3) := by decide +kernel
theorem d_Text_sizeOf_8 : decode prog_8_method_4_code 8 = .ok (.iload_n 0, 1) := by decide +kernel
theorem d_Text_sizeOf_9 : decode prog_8_method_4_code 9 = .ok (.bipush 31, 2) := by decide +kernel
theorem d_Text_sizeOf_11 : decode prog_8_method_4_code 11 = .ok (.iand, 1) := by decide +kernel
theorem d_Text_sizeOf_12 : decode prog_8_method_4_code 12 = .ok (.ireturn, 1) := by decide +kernel
theorem d_Text_span_0 : decode prog_8_method_2_code 0 = .ok (.iload_n 0, 1) := by decide +kernel
theorem d_Text_span_1 : decode prog_8_method_2_code 1 = .ok (.iconst 5, 1) := by decide +kernel
theorem d_Text_span_2 : decode prog_8_method_2_code 2 = .ok (.ishl, 1) := by decide +kernel
theorem d_Text_span_3 : decode prog_8_method_2_code 3 = .ok (.iload_n 1, 1) := by decide +kernel
theorem d_Text_span_4 : decode prog_8_method_2_code 4 = .ok (.ior, 1) := by decide +kernel
theorem d_Text_span_5 : decode prog_8_method_2_code 5 = .ok (.ireturn, 1) := by decide +kernel
theorem d_Text_startOf_0 : decode prog_8_method_3_code 0 = .ok (.iload_n 0, 1) := by decide +kernel
theorem d_Text_startOf_1 : decode prog_8_method_3_code 1 = .ok (.iconst 5, 1) := by decide +kernel
theorem d_Text_startOf_2 : decode prog_8_method_3_code 2 = .ok (.ishr, 1) := by decide +kernel
theorem d_Text_startOf_3 : decode prog_8_method_3_code 3 = .ok (.ireturn, 1) := by decide +kernel
theorem d_Tokens_backTo_0 : decode prog_9_method_8_code 0 = .ok (.iload_n 1, 1) := by decide +kernel
theorem d_Tokens_backTo_1 : decode prog_9_method_8_code 1 = .ok (.ifCond .lt 16, 3) := by decide +kernel
theorem d_Tokens_backTo_4 : decode prog_9_method_8_code 4 = .ok (.iload_n 1, 1) := by decide +kernel
theorem d_Tokens_backTo_5 : decode prog_9_method_8_code 5 = .ok (.aload_n 0, 1) := by decide +kernel
theorem d_Tokens_backTo_6 : decode prog_9_method_8_code 6 = .ok (.getfield 28, 3) := by decide +kernel
theorem d_Tokens_backTo_9 : decode prog_9_method_8_code 9 = .ok (.if_icmp .ge 8, 3) := by decide +kernel
theorem d_Tokens_backTo_12 : decode prog_9_method_8_code 12 = .ok (.aload_n 0, 1) := by decide +kernel
theorem d_Tokens_backTo_13 : decode prog_9_method_8_code 13 = .ok (.iload_n 1, 1) := by decide +kernel
theorem d_Tokens_backTo_14 : decode prog_9_method_8_code 14 = .ok (.putfield 28, 3) := by decide +kernel
theorem d_Tokens_backTo_17 : decode prog_9_method_8_code 17 = .ok (.return_, 1) := by decide +kernel
theorem d_Tokens_cut_0 : decode prog_9_method_3_code 0 = .ok (.aload_n 0, 1) := by decide +kernel
theorem d_Tokens_cut_1 : decode prog_9_method_3_code 1 = .ok (.getfield 10, 3) := by decide +kernel
theorem d_Tokens_cut_4 : decode prog_9_method_3_code 4 = .ok (.aload_n 1, 1) := by decide +kernel
theorem d_Tokens_cut_5 : decode prog_9_method_3_code 5 = .ok (.invokevirtual 20, 3) := by decide +kernel
theorem d_Tokens_cut_8 : decode prog_9_method_3_code 8 = .ok (.aload_n 0, 1) := by decide +kernel
theorem d_Tokens_cut_9 : decode prog_9_method_3_code 9 = .ok (.iconst 0, 1) := by decide +kernel
theorem d_Tokens_cut_10 : decode prog_9_method_3_code 10 = .ok (.putfield 24, 3) := by decide +kernel
theorem d_Tokens_cut_13 : decode prog_9_method_3_code 13 = .ok (.aload_n 0, 1) := by decide +kernel
theorem d_Tokens_cut_14 : decode prog_9_method_3_code 14 = .ok (.iconst 0, 1) := by decide +kernel
theorem d_Tokens_cut_15 : decode prog_9_method_3_code 15 = .ok (.putfield 28, 3) := by decide +kernel
theorem d_Tokens_cut_18 : decode prog_9_method_3_code 18 = .ok (.iconst 0, 1) := by decide +kernel
theorem d_Tokens_cut_19 : decode prog_9_method_3_code 19 = .ok (.istore_n 2, 1) := by decide +kernel
theorem d_Tokens_cut_20 : decode prog_9_method_3_code 20 = .ok (.iconst 0, 1) := by decide +kernel
theorem d_Tokens_cut_21 : decode prog_9_method_3_code 21 = .ok (.istore_n 3, 1) := by decide +kernel
theorem d_Tokens_cut_22 : decode prog_9_method_3_code 22 = .ok (.iload_n 3, 1) := by decide +kernel
theorem d_Tokens_cut_23 : decode prog_9_method_3_code 23 = .ok (.sipush 2000, 3) := by decide +kernel
theorem d_Tokens_cut_26 : decode prog_9_method_3_code 26 = .ok (.if_icmp .ge 49, 3) := by decide +kernel
theorem d_Tokens_cut_29 : decode prog_9_method_3_code 29 = .ok (.iload_n 2, 1) := by decide +kernel
theorem d_Tokens_cut_30 : decode prog_9_method_3_code 30 = .ok (.ifCond .lt 45, 3) := by decide +kernel
theorem d_Tokens_cut_33 : decode prog_9_method_3_code 33 = .ok (.iload_n 2, 1) := by decide +kernel
theorem d_Tokens_cut_34 : decode prog_9_method_3_code 34 = .ok (.aload_n 0, 1) := by decide +kernel
theorem d_Tokens_cut_35 : decode prog_9_method_3_code 35 = .ok (.getfield 10, 3) := by decide +kernel
theorem d_Tokens_cut_38 : decode prog_9_method_3_code 38 = .ok (.invokevirtual 31, 3) := by decide +kernel
theorem d_Tokens_cut_41 : decode prog_9_method_3_code 41 = .ok (.if_icmp .ge 34, 3) := by decide +kernel
theorem d_Tokens_cut_44 : decode prog_9_method_3_code 44 = .ok (.aload_n 0, 1) := by decide +kernel
theorem d_Tokens_cut_45 : decode prog_9_method_3_code 45 = .ok (.getfield 10, 3) := by decide +kernel
theorem d_Tokens_cut_48 : decode prog_9_method_3_code 48 = .ok (.iload_n 2, 1) := by decide +kernel
theorem d_Tokens_cut_49 : decode prog_9_method_3_code 49 = .ok (.invokevirtual 34, 3) := by decide +kernel
theorem d_Tokens_cut_52 : decode prog_9_method_3_code 52 = .ok (.bipush 32, 2) := by decide +kernel
theorem d_Tokens_cut_54 : decode prog_9_method_3_code 54 = .ok (.if_icmp .ne 9, 3) := by decide +kernel
theorem d_Tokens_cut_57 : decode prog_9_method_3_code 57 = .ok (.iload_n 2, 1) := by decide +kernel
theorem d_Tokens_cut_58 : decode prog_9_method_3_code 58 = .ok (.iconst 1, 1) := by decide +kernel
theorem d_Tokens_cut_59 : decode prog_9_method_3_code 59 = .ok (.iadd, 1) := by decide +kernel
theorem d_Tokens_cut_60 : decode prog_9_method_3_code 60 = .ok (.goto 8, 3) := by decide +kernel
theorem d_Tokens_cut_63 : decode prog_9_method_3_code 63 = .ok (.aload_n 0, 1) := by decide +kernel
theorem d_Tokens_cut_64 : decode prog_9_method_3_code 64 = .ok (.iload_n 2, 1) := by decide +kernel
theorem d_Tokens_cut_65 : decode prog_9_method_3_code 65 = .ok (.invokevirtual 38, 3) := by decide +kernel
theorem d_Tokens_cut_68 : decode prog_9_method_3_code 68 = .ok (.istore_n 2, 1) := by decide +kernel
theorem d_Tokens_cut_69 : decode prog_9_method_3_code 69 = .ok (.iinc 3 1, 3) := by decide +kernel
theorem d_Tokens_cut_72 : decode prog_9_method_3_code 72 = .ok (.goto (-50), 3) := by decide +kernel
theorem d_Tokens_cut_75 : decode prog_9_method_3_code 75 = .ok (.iload_n 2, 1) := by decide +kernel
theorem d_Tokens_cut_76 : decode prog_9_method_3_code 76 = .ok (.ifCond .lt 7, 3) := by decide +kernel
theorem d_Tokens_cut_79 : decode prog_9_method_3_code 79 = .ok (.iconst 1, 1) := by decide +kernel
theorem d_Tokens_cut_80 : decode prog_9_method_3_code 80 = .ok (.goto 4, 3) := by decide +kernel
theorem d_Tokens_cut_83 : decode prog_9_method_3_code 83 = .ok (.iconst 0, 1) := by decide +kernel
theorem d_Tokens_cut_84 : decode prog_9_method_3_code 84 = .ok (.ireturn, 1) := by decide +kernel
theorem d_Tokens_cutText_0 : decode prog_9_method_12_code 0 = .ok (.iload_n 1, 1) := by decide +kernel
theorem d_Tokens_cutText_1 : decode prog_9_method_12_code 1 = .ok (.istore_n 2, 1) := by decide +kernel
theorem d_Tokens_cutText_2 : decode prog_9_method_12_code 2 = .ok (.iload_n 1, 1) := by decide +kernel
theorem d_Tokens_cutText_3 : decode prog_9_method_12_code 3 = .ok (.istore_n 3, 1) := by decide +kernel
theorem d_Tokens_cutText_4 : decode prog_9_method_12_code 4 = .ok (.iconst 0, 1) := by decide +kernel
theorem d_Tokens_cutText_5 : decode prog_9_method_12_code 5 = .ok (.istore 4, 2) := by decide +kernel
theorem d_Tokens_cutText_7 : decode prog_9_method_12_code 7 = .ok (.iload 4, 2) := by decide +kernel
theorem d_Tokens_cutText_9 : decode prog_9_method_12_code 9 = .ok (.sipush 2000, 3) := by decide +kernel
theorem d_Tokens_cutText_12 : decode prog_9_method_12_code 12 = .ok (.if_icmp .ge 92, 3) := by decide +kernel
theorem d_Tokens_cutText_15 : decode prog_9_method_12_code 15 = .ok (.aload_n 0, 1) := by decide +kernel
theorem d_Tokens_cutText_16 : decode prog_9_method_12_code 16 = .ok (.getfield 10, 3) := by decide +kernel
theorem d_Tokens_cutText_19 : decode prog_9_method_12_code 19 = .ok (.iload_n 3, 1) := by decide +kernel
theorem d_Tokens_cutText_20 : decode prog_9_method_12_code 20 = .ok (.invokevirtual 34, 3) := by decide +kernel
theorem d_Tokens_cutText_23 : decode prog_9_method_12_code 23 = .ok (.istore 5, 2) := by decide +kernel
theorem d_Tokens_cutText_25 : decode prog_9_method_12_code 25 = .ok (.iload 5, 2) := by decide +kernel
theorem d_Tokens_cutText_27 : decode prog_9_method_12_code 27 = .ok (.bipush 32, 2) := by decide +kernel
theorem d_Tokens_cutText_29 : decode prog_9_method_12_code 29 = .ok (.if_icmp .lt 10, 3) := by decide +kernel
theorem d_Tokens_cutText_32 : decode prog_9_method_12_code 32 = .ok (.iload 5, 2) := by decide +kernel
theorem d_Tokens_cutText_34 : decode prog_9_method_12_code 34 = .ok (.bipush 126, 2) := by decide +kernel
theorem d_Tokens_cutText_36 : decode prog_9_method_12_code 36 = .ok (.if_icmp .le 5, 3) := by decide +kernel
theorem d_Tokens_cutText_39 : decode prog_9_method_12_code 39 = .ok (.iconst (-1), 1) := by decide +kernel
theorem d_Tokens_cutText_40 : decode prog_9_method_12_code 40 = .ok (.ireturn, 1) := by decide +kernel
theorem d_Tokens_cutText_41 : decode prog_9_method_12_code 41 = .ok (.iload 5, 2) := by decide +kernel
theorem d_Tokens_cutText_43 : decode prog_9_method_12_code 43 = .ok (.bipush 39, 2) := by decide +kernel
theorem d_Tokens_cutText_45 : decode prog_9_method_12_code 45 = .ok (.if_icmp .ne 37, 3) := by decide +kernel
theorem d_Tokens_cutText_48 : decode prog_9_method_12_code 48 = .ok (.iinc 3 1, 3) := by decide +kernel
theorem d_Tokens_cutText_51 : decode prog_9_method_12_code 51 = .ok (.aload_n 0, 1) := by decide +kernel
theorem d_Tokens_cutText_52 : decode prog_9_method_12_code 52 = .ok (.getfield 10, 3) := by decide +kernel
theorem d_Tokens_cutText_55 : decode prog_9_method_12_code 55 = .ok (.iload_n 3, 1) := by decide +kernel
theorem d_Tokens_cutText_56 : decode prog_9_method_12_code 56 = .ok (.invokevirtual 34, 3) := by decide +kernel
theorem d_Tokens_cutText_59 : decode prog_9_method_12_code 59 = .ok (.bipush 39, 2) := by decide +kernel
theorem d_Tokens_cutText_61 : decode prog_9_method_12_code 61 = .ok (.if_icmp .eq 21, 3) := by decide +kernel
theorem d_Tokens_cutText_64 : decode prog_9_method_12_code 64 = .ok (.aload_n 0, 1) := by decide +kernel
theorem d_Tokens_cutText_65 : decode prog_9_method_12_code 65 = .ok (.iconst 3, 1) := by decide +kernel
theorem d_Tokens_cutText_66 : decode prog_9_method_12_code 66 = .ok (.iload_n 1, 1) := by decide +kernel
theorem d_Tokens_cutText_67 : decode prog_9_method_12_code 67 = .ok (.iload_n 2, 1) := by decide +kernel
theorem d_Tokens_cutText_68 : decode prog_9_method_12_code 68 = .ok (.bipush 31, 2) := by decide +kernel
theorem d_Tokens_cutText_70 : decode prog_9_method_12_code 70 = .ok (.invokevirtual 66, 3) := by decide +kernel
theorem d_Tokens_cutText_73 : decode prog_9_method_12_code 73 = .ok (.ifCond .ge 7, 3) := by decide +kernel
theorem d_Tokens_cutText_76 : decode prog_9_method_12_code 76 = .ok (.iconst (-1), 1) := by decide +kernel
theorem d_Tokens_cutText_77 : decode prog_9_method_12_code 77 = .ok (.goto 4, 3) := by decide +kernel
theorem d_Tokens_cutText_80 : decode prog_9_method_12_code 80 = .ok (.iload_n 3, 1) := by decide +kernel
theorem d_Tokens_cutText_81 : decode prog_9_method_12_code 81 = .ok (.ireturn, 1) := by decide +kernel
theorem d_Tokens_cutText_82 : decode prog_9_method_12_code 82 = .ok (.aload_n 0, 1) := by decide +kernel
theorem d_Tokens_cutText_83 : decode prog_9_method_12_code 83 = .ok (.getfield 10, 3) := by decide +kernel
theorem d_Tokens_cutText_86 : decode prog_9_method_12_code 86 = .ok (.iload_n 2, 1) := by decide +kernel
theorem d_Tokens_cutText_87 : decode prog_9_method_12_code 87 = .ok (.iload 5, 2) := by decide +kernel
theorem d_Tokens_cutText_89 : decode prog_9_method_12_code 89 = .ok (.invokevirtual 92, 3) := by decide +kernel
theorem d_Tokens_cutText_92 : decode prog_9_method_12_code 92 = .ok (.iinc 2 1, 3) := by decide +kernel
theorem d_Tokens_cutText_95 : decode prog_9_method_12_code 95 = .ok (.iinc 3 1, 3) := by decide +kernel
theorem d_Tokens_cutText_98 : decode prog_9_method_12_code 98 = .ok (.iinc 4 1, 3) := by decide +kernel
theorem d_Tokens_cutText_101 : decode prog_9_method_12_code 101 = .ok (.goto (-94), 3) := by decide +kernel
theorem d_Tokens_cutText_104 : decode prog_9_method_12_code 104 = .ok (.iconst (-1), 1) := by decide +kernel
theorem d_Tokens_cutText_105 : decode prog_9_method_12_code 105 = .ok (.ireturn, 1) := by decide +kernel
theorem d_Tokens_cutToken_0 : decode prog_9_method_10_code 0 = .ok (.aload_n 0, 1) := by decide +kernel
theorem d_Tokens_cutToken_1 : decode prog_9_method_10_code 1 = .ok (.getfield 10, 3) := by decide +kernel
theorem d_Tokens_cutToken_4 : decode prog_9_method_10_code 4 = .ok (.iload_n 1, 1) := by decide +kernel
theorem d_Tokens_cutToken_5 : decode prog_9_method_10_code 5 = .ok (.invokevirtual 34, 3) := by decide +kernel
theorem d_Tokens_cutToken_8 : decode prog_9_method_10_code 8 = .ok (.istore_n 2, 1) := by decide +kernel
theorem d_Tokens_cutToken_9 : decode prog_9_method_10_code 9 = .ok (.iload_n 2, 1) := by decide +kernel
theorem d_Tokens_cutToken_10 : decode prog_9_method_10_code 10 = .ok (.invokestatic 59, 3) := by decide +kernel
theorem d_Tokens_cutToken_13 : decode prog_9_method_10_code 13 = .ok (.ifCond .eq 17, 3) := by decide +kernel
theorem d_Tokens_cutToken_16 : decode prog_9_method_10_code 16 = .ok (.aload_n 0, 1) := by decide +kernel
theorem d_Tokens_cutToken_17 : decode prog_9_method_10_code 17 = .ok (.iconst 0, 1) := by decide +kernel
theorem d_Tokens_cutToken_18 : decode prog_9_method_10_code 18 = .ok (.iload_n 1, 1) := by decide +kernel
theorem d_Tokens_cutToken_19 : decode prog_9_method_10_code 19 = .ok (.aload_n 0, 1) := by decide +kernel
theorem d_Tokens_cutToken_20 : decode prog_9_method_10_code 20 = .ok (.iload_n 1, 1) := by decide +kernel
theorem d_Tokens_cutToken_21 : decode prog_9_method_10_code 21 = .ok (.invokevirtual 63, 3) := by decide +kernel
theorem d_Tokens_cutToken_24 : decode prog_9_method_10_code 24 = .ok (.bipush 31, 2) := by decide +kernel
theorem d_Tokens_cutToken_26 : decode prog_9_method_10_code 26 = .ok (.invokevirtual 66, 3) := by decide +kernel
theorem d_Tokens_cutToken_29 : decode prog_9_method_10_code 29 = .ok (.ireturn, 1) := by decide +kernel
theorem d_Tokens_cutToken_30 : decode prog_9_method_10_code 30 = .ok (.iload_n 2, 1) := by decide +kernel
theorem d_Tokens_cutToken_31 : decode prog_9_method_10_code 31 = .ok (.invokestatic 70, 3) := by decide +kernel
theorem d_Tokens_cutToken_34 : decode prog_9_method_10_code 34 = .ok (.ifCond .eq 17, 3) := by decide +kernel
theorem d_Tokens_cutToken_37 : decode prog_9_method_10_code 37 = .ok (.aload_n 0, 1) := by decide +kernel
theorem d_Tokens_cutToken_38 : decode prog_9_method_10_code 38 = .ok (.iconst 1, 1) := by decide +kernel
theorem d_Tokens_cutToken_39 : decode prog_9_method_10_code 39 = .ok (.iload_n 1, 1) := by decide +kernel
theorem d_Tokens_cutToken_40 : decode prog_9_method_10_code 40 = .ok (.aload_n 0, 1) := by decide +kernel
theorem d_Tokens_cutToken_41 : decode prog_9_method_10_code 41 = .ok (.iload_n 1, 1) := by decide +kernel
theorem d_Tokens_cutToken_42 : decode prog_9_method_10_code 42 = .ok (.invokevirtual 73, 3) := by decide +kernel
theorem d_Tokens_cutToken_45 : decode prog_9_method_10_code 45 = .ok (.bipush 16, 2) := by decide +kernel
theorem d_Tokens_cutToken_47 : decode prog_9_method_10_code 47 = .ok (.invokevirtual 66, 3) := by decide +kernel
theorem d_Tokens_cutToken_50 : decode prog_9_method_10_code 50 = .ok (.ireturn, 1) := by decide +kernel
theorem d_Tokens_cutToken_51 : decode prog_9_method_10_code 51 = .ok (.iload_n 2, 1) := by decide +kernel
theorem d_Tokens_cutToken_52 : decode prog_9_method_10_code 52 = .ok (.invokestatic 76, 3) := by decide +kernel
theorem d_Tokens_cutToken_55 : decode prog_9_method_10_code 55 = .ok (.ifCond .eq 17, 3) := by decide +kernel
theorem d_Tokens_cutToken_58 : decode prog_9_method_10_code 58 = .ok (.aload_n 0, 1) := by decide +kernel
theorem d_Tokens_cutToken_59 : decode prog_9_method_10_code 59 = .ok (.iconst 2, 1) := by decide +kernel
theorem d_Tokens_cutToken_60 : decode prog_9_method_10_code 60 = .ok (.iload_n 1, 1) := by decide +kernel
theorem d_Tokens_cutToken_61 : decode prog_9_method_10_code 61 = .ok (.aload_n 0, 1) := by decide +kernel
theorem d_Tokens_cutToken_62 : decode prog_9_method_10_code 62 = .ok (.iload_n 1, 1) := by decide +kernel
theorem d_Tokens_cutToken_63 : decode prog_9_method_10_code 63 = .ok (.invokevirtual 79, 3) := by decide +kernel
theorem d_Tokens_cutToken_66 : decode prog_9_method_10_code 66 = .ok (.bipush 18, 2) := by decide +kernel
theorem d_Tokens_cutToken_68 : decode prog_9_method_10_code 68 = .ok (.invokevirtual 66, 3) := by decide +kernel
theorem d_Tokens_cutToken_71 : decode prog_9_method_10_code 71 = .ok (.ireturn, 1) := by decide +kernel
theorem d_Tokens_cutToken_72 : decode prog_9_method_10_code 72 = .ok (.iload_n 2, 1) := by decide +kernel
theorem d_Tokens_cutToken_73 : decode prog_9_method_10_code 73 = .ok (.bipush 39, 2) := by decide +kernel
theorem d_Tokens_cutToken_75 : decode prog_9_method_10_code 75 = .ok (.if_icmp .ne 11, 3) := by decide +kernel
theorem d_Tokens_cutToken_78 : decode prog_9_method_10_code 78 = .ok (.aload_n 0, 1) := by decide +kernel
theorem d_Tokens_cutToken_79 : decode prog_9_method_10_code 79 = .ok (.iload_n 1, 1) := by decide +kernel
theorem d_Tokens_cutToken_80 : decode prog_9_method_10_code 80 = .ok (.iconst 1, 1) := by decide +kernel
theorem d_Tokens_cutToken_81 : decode prog_9_method_10_code 81 = .ok (.iadd, 1) := by decide +kernel
theorem d_Tokens_cutToken_82 : decode prog_9_method_10_code 82 = .ok (.invokevirtual 82, 3) := by decide +kernel
theorem d_Tokens_cutToken_85 : decode prog_9_method_10_code 85 = .ok (.ireturn, 1) := by decide +kernel
theorem d_Tokens_cutToken_86 : decode prog_9_method_10_code 86 = .ok (.iload_n 2, 1) := by decide +kernel
theorem d_Tokens_cutToken_87 : decode prog_9_method_10_code 87 = .ok (.bipush 36, 2) := by decide +kernel
theorem d_Tokens_cutToken_89 : decode prog_9_method_10_code 89 = .ok (.if_icmp .ne 43, 3) := by decide +kernel
theorem d_Tokens_cutToken_92 : decode prog_9_method_10_code 92 = .ok (.aload_n 0, 1) := by decide +kernel
theorem d_Tokens_cutToken_93 : decode prog_9_method_10_code 93 = .ok (.getfield 10, 3) := by decide +kernel
theorem d_Tokens_cutToken_96 : decode prog_9_method_10_code 96 = .ok (.iload_n 1, 1) := by decide +kernel
theorem d_Tokens_cutToken_97 : decode prog_9_method_10_code 97 = .ok (.iconst 1, 1) := by decide +kernel
theorem d_Tokens_cutToken_98 : decode prog_9_method_10_code 98 = .ok (.iadd, 1) := by decide +kernel
theorem d_Tokens_cutToken_99 : decode prog_9_method_10_code 99 = .ok (.invokevirtual 34, 3) := by decide +kernel
theorem d_Tokens_cutToken_102 : decode prog_9_method_10_code 102 = .ok (.istore_n 3, 1) := by decide +kernel
theorem d_Tokens_cutToken_103 : decode prog_9_method_10_code 103 = .ok (.iload_n 3, 1) := by decide +kernel
theorem d_Tokens_cutToken_104 : decode prog_9_method_10_code 104 = .ok (.bipush 49, 2) := by decide +kernel
theorem d_Tokens_cutToken_106 : decode prog_9_method_10_code 106 = .ok (.if_icmp .lt 9, 3) := by decide +kernel
theorem d_Tokens_cutToken_109 : decode prog_9_method_10_code 109 = .ok (.iload_n 3, 1) := by decide +kernel
theorem d_Tokens_cutToken_110 : decode prog_9_method_10_code 110 = .ok (.bipush 57, 2) := by decide +kernel
theorem d_Tokens_cutToken_112 : decode prog_9_method_10_code 112 = .ok (.if_icmp .le 7, 3) := by decide +kernel
theorem d_Tokens_cutToken_115 : decode prog_9_method_10_code 115 = .ok (.iconst (-1), 1) := by decide +kernel
theorem d_Tokens_cutToken_116 : decode prog_9_method_10_code 116 = .ok (.goto 15, 3) := by decide +kernel
theorem d_Tokens_cutToken_119 : decode prog_9_method_10_code 119 = .ok (.aload_n 0, 1) := by decide +kernel
theorem d_Tokens_cutToken_120 : decode prog_9_method_10_code 120 = .ok (.iconst 4, 1) := by decide +kernel
theorem d_Tokens_cutToken_121 : decode prog_9_method_10_code 121 = .ok (.iload_n 1, 1) := by decide +kernel
theorem d_Tokens_cutToken_122 : decode prog_9_method_10_code 122 = .ok (.iconst 1, 1) := by decide +kernel
theorem d_Tokens_cutToken_123 : decode prog_9_method_10_code 123 = .ok (.iadd, 1) := by decide +kernel
theorem d_Tokens_cutToken_124 : decode prog_9_method_10_code 124 = .ok (.iload_n 1, 1) := by decide +kernel
theorem d_Tokens_cutToken_125 : decode prog_9_method_10_code 125 = .ok (.iconst 2, 1) := by decide +kernel
theorem d_Tokens_cutToken_126 : decode prog_9_method_10_code 126 = .ok (.iadd, 1) := by decide +kernel
theorem d_Tokens_cutToken_127 : decode prog_9_method_10_code 127 = .ok (.iconst 1, 1) := by decide +kernel
theorem d_Tokens_cutToken_128 : decode prog_9_method_10_code 128 = .ok (.invokevirtual 66, 3) := by decide +kernel
theorem d_Tokens_cutToken_131 : decode prog_9_method_10_code 131 = .ok (.ireturn, 1) := by decide +kernel
theorem d_Tokens_cutToken_132 : decode prog_9_method_10_code 132 = .ok (.aload_n 0, 1) := by decide +kernel
theorem d_Tokens_cutToken_133 : decode prog_9_method_10_code 133 = .ok (.iload_n 1, 1) := by decide +kernel
theorem d_Tokens_cutToken_134 : decode prog_9_method_10_code 134 = .ok (.invokevirtual 85, 3) := by decide +kernel
theorem d_Tokens_cutToken_137 : decode prog_9_method_10_code 137 = .ok (.istore_n 3, 1) := by decide +kernel
theorem d_Tokens_cutToken_138 : decode prog_9_method_10_code 138 = .ok (.iload_n 3, 1) := by decide +kernel
theorem d_Tokens_cutToken_139 : decode prog_9_method_10_code 139 = .ok (.ifCond .ne 7, 3) := by decide +kernel
theorem d_Tokens_cutToken_142 : decode prog_9_method_10_code 142 = .ok (.iconst (-1), 1) := by decide +kernel
theorem d_Tokens_cutToken_143 : decode prog_9_method_10_code 143 = .ok (.goto 13, 3) := by decide +kernel
theorem d_Tokens_cutToken_146 : decode prog_9_method_10_code 146 = .ok (.aload_n 0, 1) := by decide +kernel
theorem d_Tokens_cutToken_147 : decode prog_9_method_10_code 147 = .ok (.iconst 0, 1) := by decide +kernel
theorem d_Tokens_cutToken_148 : decode prog_9_method_10_code 148 = .ok (.iload_n 1, 1) := by decide +kernel
theorem d_Tokens_cutToken_149 : decode prog_9_method_10_code 149 = .ok (.iload_n 1, 1) := by decide +kernel
theorem d_Tokens_cutToken_150 : decode prog_9_method_10_code 150 = .ok (.iload_n 3, 1) := by decide +kernel
theorem d_Tokens_cutToken_151 : decode prog_9_method_10_code 151 = .ok (.iadd, 1) := by decide +kernel
theorem d_Tokens_cutToken_152 : decode prog_9_method_10_code 152 = .ok (.iload_n 3, 1) := by decide +kernel
theorem d_Tokens_cutToken_153 : decode prog_9_method_10_code 153 = .ok (.invokevirtual 66, 3) := by decide +kernel
theorem d_Tokens_cutToken_156 : decode prog_9_method_10_code 156 = .ok (.ireturn, 1) := by decide +kernel
theorem d_Tokens_endOfCapitals_0 : decode prog_9_method_14_code 0 = .ok (.iload_n 1, 1) := by decide +kernel
theorem d_Tokens_endOfCapitals_1 : decode prog_9_method_14_code 1 = .ok (.istore_n 2, 1) := by decide +kernel
theorem d_Tokens_endOfCapitals_2 : decode prog_9_method_14_code 2 = .ok (.iconst 0, 1) := by decide +kernel
theorem d_Tokens_endOfCapitals_3 : decode prog_9_method_14_code 3 = .ok (.istore_n 3, 1) := by decide +kernel
theorem d_Tokens_endOfCapitals_4 : decode prog_9_method_14_code 4 = .ok (.iload_n 3, 1) := by decide +kernel
theorem d_Tokens_endOfCapitals_5 : decode prog_9_method_14_code 5 = .ok (.sipush 2000, 3) := by decide +kernel
theorem d_Tokens_endOfCapitals_8 : decode prog_9_method_14_code 8 = .ok (.if_icmp .ge 26, 3) := by decide +kernel
theorem d_Tokens_endOfCapitals_11 : decode prog_9_method_14_code 11 = .ok (.aload_n 0, 1) := by decide +kernel
theorem d_Tokens_endOfCapitals_12 : decode prog_9_method_14_code 12 = .ok (.getfield 10, 3) := by decide +kernel
theorem d_Tokens_endOfCapitals_15 : decode prog_9_method_14_code 15 = .ok (.iload_n 2, 1) := by decide +kernel
theorem d_Tokens_endOfCapitals_16 : decode prog_9_method_14_code 16 = .ok (.invokevirtual 34, 3) := by decide +kernel
theorem d_Tokens_endOfCapitals_19 : decode prog_9_method_14_code 19 = .ok (.invokestatic 59, 3) := by decide +kernel
theorem d_Tokens_endOfCapitals_22 : decode prog_9_method_14_code 22 = .ok (.ifCond .eq 12, 3) := by decide +kernel
theorem d_Tokens_endOfCapitals_25 : decode prog_9_method_14_code 25 = .ok (.iinc 2 1, 3) := by decide +kernel
theorem d_Tokens_endOfCapitals_28 : decode prog_9_method_14_code 28 = .ok (.iinc 3 1, 3) := by decide +kernel
theorem d_Tokens_endOfCapitals_31 : decode prog_9_method_14_code 31 = .ok (.goto (-27), 3) := by decide +kernel
theorem d_Tokens_endOfCapitals_34 : decode prog_9_method_14_code 34 = .ok (.iload_n 2, 1) := by decide +kernel
theorem d_Tokens_endOfCapitals_35 : decode prog_9_method_14_code 35 = .ok (.ireturn, 1) := by decide +kernel
theorem d_Tokens_endOfDigits_0 : decode prog_9_method_16_code 0 = .ok (.iload_n 1, 1) := by decide +kernel
theorem d_Tokens_endOfDigits_1 : decode prog_9_method_16_code 1 = .ok (.istore_n 2, 1) := by decide +kernel
theorem d_Tokens_endOfDigits_2 : decode prog_9_method_16_code 2 = .ok (.iconst 0, 1) := by decide +kernel
theorem d_Tokens_endOfDigits_3 : decode prog_9_method_16_code 3 = .ok (.istore_n 3, 1) := by decide +kernel
theorem d_Tokens_endOfDigits_4 : decode prog_9_method_16_code 4 = .ok (.iload_n 3, 1) := by decide +kernel
theorem d_Tokens_endOfDigits_5 : decode prog_9_method_16_code 5 = .ok (.sipush 2000, 3) := by decide +kernel
theorem d_Tokens_endOfDigits_8 : decode prog_9_method_16_code 8 = .ok (.if_icmp .ge 26, 3) := by decide +kernel
theorem d_Tokens_endOfDigits_11 : decode prog_9_method_16_code 11 = .ok (.aload_n 0, 1) := by decide +kernel
theorem d_Tokens_endOfDigits_12 : decode prog_9_method_16_code 12 = .ok (.getfield 10, 3) := by decide +kernel
theorem d_Tokens_endOfDigits_15 : decode prog_9_method_16_code 15 = .ok (.iload_n 2, 1) := by decide +kernel
theorem d_Tokens_endOfDigits_16 : decode prog_9_method_16_code 16 = .ok (.invokevirtual 34, 3) := by decide +kernel
theorem d_Tokens_endOfDigits_19 : decode prog_9_method_16_code 19 = .ok (.invokestatic 76, 3) := by decide +kernel
theorem d_Tokens_endOfDigits_22 : decode prog_9_method_16_code 22 = .ok (.ifCond .eq 12, 3) := by decide +kernel
theorem d_Tokens_endOfDigits_25 : decode prog_9_method_16_code 25 = .ok (.iinc 2 1, 3) := by decide +kernel
theorem d_Tokens_endOfDigits_28 : decode prog_9_method_16_code 28 = .ok (.iinc 3 1, 3) := by decide +kernel
theorem d_Tokens_endOfDigits_31 : decode prog_9_method_16_code 31 = .ok (.goto (-27), 3) := by decide +kernel
theorem d_Tokens_endOfDigits_34 : decode prog_9_method_16_code 34 = .ok (.iload_n 2, 1) := by decide +kernel
theorem d_Tokens_endOfDigits_35 : decode prog_9_method_16_code 35 = .ok (.ireturn, 1) := by decide +kernel
theorem d_Tokens_endOfName_0 : decode prog_9_method_15_code 0 = .ok (.iload_n 1, 1) := by decide +kernel
theorem d_Tokens_endOfName_1 : decode prog_9_method_15_code 1 = .ok (.istore_n 2, 1) := by decide +kernel
theorem d_Tokens_endOfName_2 : decode prog_9_method_15_code 2 = .ok (.iconst 0, 1) := by decide +kernel
theorem d_Tokens_endOfName_3 : decode prog_9_method_15_code 3 = .ok (.istore_n 3, 1) := by decide +kernel
theorem d_Tokens_endOfName_4 : decode prog_9_method_15_code 4 = .ok (.iload_n 3, 1) := by decide +kernel
theorem d_Tokens_endOfName_5 : decode prog_9_method_15_code 5 = .ok (.sipush 2000, 3) := by decide +kernel
theorem d_Tokens_endOfName_8 : decode prog_9_method_15_code 8 = .ok (.if_icmp .ge 26, 3) := by decide +kernel
theorem d_Tokens_endOfName_11 : decode prog_9_method_15_code 11 = .ok (.aload_n 0, 1) := by decide +kernel
theorem d_Tokens_endOfName_12 : decode prog_9_method_15_code 12 = .ok (.getfield 10, 3) := by decide +kernel
theorem d_Tokens_endOfName_15 : decode prog_9_method_15_code 15 = .ok (.iload_n 2, 1) := by decide +kernel
theorem d_Tokens_endOfName_16 : decode prog_9_method_15_code 16 = .ok (.invokevirtual 34, 3) := by decide +kernel
theorem d_Tokens_endOfName_19 : decode prog_9_method_15_code 19 = .ok (.invokestatic 101, 3) := by decide +kernel
theorem d_Tokens_endOfName_22 : decode prog_9_method_15_code 22 = .ok (.ifCond .eq 12, 3) := by decide +kernel
theorem d_Tokens_endOfName_25 : decode prog_9_method_15_code 25 = .ok (.iinc 2 1, 3) := by decide +kernel
theorem d_Tokens_endOfName_28 : decode prog_9_method_15_code 28 = .ok (.iinc 3 1, 3) := by decide +kernel
theorem d_Tokens_endOfName_31 : decode prog_9_method_15_code 31 = .ok (.goto (-27), 3) := by decide +kernel
theorem d_Tokens_endOfName_34 : decode prog_9_method_15_code 34 = .ok (.iload_n 2, 1) := by decide +kernel
theorem d_Tokens_endOfName_35 : decode prog_9_method_15_code 35 = .ok (.ireturn, 1) := by decide +kernel
theorem d_Tokens_ended_0 : decode prog_9_method_4_code 0 = .ok (.aload_n 0, 1) := by decide +kernel
theorem d_Tokens_ended_1 : decode prog_9_method_4_code 1 = .ok (.getfield 28, 3) := by decide +kernel
theorem d_Tokens_ended_4 : decode prog_9_method_4_code 4 = .ok (.aload_n 0, 1) := by decide +kernel
theorem d_Tokens_ended_5 : decode prog_9_method_4_code 5 = .ok (.getfield 24, 3) := by decide +kernel
theorem d_Tokens_ended_8 : decode prog_9_method_4_code 8 = .ok (.if_icmp .lt 7, 3) := by decide +kernel
theorem d_Tokens_ended_11 : decode prog_9_method_4_code 11 = .ok (.iconst 1, 1) := by decide +kernel
theorem d_Tokens_ended_12 : decode prog_9_method_4_code 12 = .ok (.goto 4, 3) := by decide +kernel
theorem d_Tokens_ended_15 : decode prog_9_method_4_code 15 = .ok (.iconst 0, 1) := by decide +kernel
theorem d_Tokens_ended_16 : decode prog_9_method_4_code 16 = .ok (.ireturn, 1) := by decide +kernel
theorem d_Tokens_isCapital_0 : decode prog_9_method_17_code 0 = .ok (.iload_n 0, 1) := by decide +kernel
theorem d_Tokens_isCapital_1 : decode prog_9_method_17_code 1 = .ok (.bipush 65, 2) := by decide +kernel
theorem d_Tokens_isCapital_3 : decode prog_9_method_17_code 3 = .ok (.if_icmp .lt 13, 3) := by decide +kernel
theorem d_Tokens_isCapital_6 : decode prog_9_method_17_code 6 = .ok (.iload_n 0, 1) := by decide +kernel
theorem d_Tokens_isCapital_7 : decode prog_9_method_17_code 7 = .ok (.bipush 90, 2) := by decide +kernel
theorem d_Tokens_isCapital_9 : decode prog_9_method_17_code 9 = .ok (.if_icmp .gt 7, 3) := by decide +kernel
theorem d_Tokens_isCapital_12 : decode prog_9_method_17_code 12 = .ok (.iconst 1, 1) := by decide +kernel
theorem d_Tokens_isCapital_13 : decode prog_9_method_17_code 13 = .ok (.goto 4, 3) := by decide +kernel
theorem d_Tokens_isCapital_16 : decode prog_9_method_17_code 16 = .ok (.iconst 0, 1) := by decide +kernel
theorem d_Tokens_isCapital_17 : decode prog_9_method_17_code 17 = .ok (.ireturn, 1) := by decide +kernel
theorem d_Tokens_keep_0 : decode prog_9_method_11_code 0 = .ok (.iload_n 3, 1) := by decide +kernel
theorem d_Tokens_keep_1 : decode prog_9_method_11_code 1 = .ok (.iload_n 2, 1) := by decide +kernel
theorem d_Tokens_keep_2 : decode prog_9_method_11_code 2 = .ok (.isub, 1) := by decide +kernel
theorem d_Tokens_keep_3 : decode prog_9_method_11_code 3 = .ok (.iload 4, 2) := by decide +kernel
theorem d_Tokens_keep_5 : decode prog_9_method_11_code 5 = .ok (.if_icmp .gt 13, 3) := by decide +kernel
theorem d_Tokens_keep_8 : decode prog_9_method_11_code 8 = .ok (.aload_n 0, 1) := by decide +kernel
theorem d_Tokens_keep_9 : decode prog_9_method_11_code 9 = .ok (.getfield 24, 3) := by decide +kernel
theorem d_Tokens_keep_12 : decode prog_9_method_11_code 12 = .ok (.sipush 2000, 3) := by decide +kernel
theorem d_Tokens_keep_15 : decode prog_9_method_11_code 15 = .ok (.if_icmp .lt 5, 3) := by decide +kernel
theorem d_Tokens_keep_18 : decode prog_9_method_11_code 18 = .ok (.iconst (-1), 1) := by decide +kernel
theorem d_Tokens_keep_19 : decode prog_9_method_11_code 19 = .ok (.ireturn, 1) := by decide +kernel
theorem d_Tokens_keep_20 : decode prog_9_method_11_code 20 = .ok (.aload_n 0, 1) := by decide +kernel
theorem d_Tokens_keep_21 : decode prog_9_method_11_code 21 = .ok (.getfield 16, 3) := by decide +kernel
theorem d_Tokens_keep_24 : decode prog_9_method_11_code 24 = .ok (.aload_n 0, 1) := by decide +kernel
theorem d_Tokens_keep_25 : decode prog_9_method_11_code 25 = .ok (.getfield 24, 3) := by decide +kernel
theorem d_Tokens_keep_28 : decode prog_9_method_11_code 28 = .ok (.iload_n 1, 1) := by decide +kernel
theorem d_Tokens_keep_29 : decode prog_9_method_11_code 29 = .ok (.bipush 16, 2) := by decide +kernel
theorem d_Tokens_keep_31 : decode prog_9_method_11_code 31 = .ok (.ishl, 1) := by decide +kernel
theorem d_Tokens_keep_32 : decode prog_9_method_11_code 32 = .ok (.iload_n 2, 1) := by decide +kernel
theorem d_Tokens_keep_33 : decode prog_9_method_11_code 33 = .ok (.iload_n 3, 1) := by decide +kernel
theorem d_Tokens_keep_34 : decode prog_9_method_11_code 34 = .ok (.iload_n 2, 1) := by decide +kernel
theorem d_Tokens_keep_35 : decode prog_9_method_11_code 35 = .ok (.isub, 1) := by decide +kernel
theorem d_Tokens_keep_36 : decode prog_9_method_11_code 36 = .ok (.invokestatic 88, 3) := by decide +kernel
theorem d_Tokens_keep_39 : decode prog_9_method_11_code 39 = .ok (.ior, 1) := by decide +kernel
theorem d_Tokens_keep_40 : decode prog_9_method_11_code 40 = .ok (.iastore, 1) := by decide +kernel
theorem d_Tokens_keep_41 : decode prog_9_method_11_code 41 = .ok (.aload_n 0, 1) := by decide +kernel
theorem d_Tokens_keep_42 : decode prog_9_method_11_code 42 = .ok (.dup, 1) := by decide +kernel
theorem d_Tokens_keep_43 : decode prog_9_method_11_code 43 = .ok (.getfield 24, 3) := by decide +kernel
theorem d_Tokens_keep_46 : decode prog_9_method_11_code 46 = .ok (.iconst 1, 1) := by decide +kernel
theorem d_Tokens_keep_47 : decode prog_9_method_11_code 47 = .ok (.iadd, 1) := by decide +kernel
theorem d_Tokens_keep_48 : decode prog_9_method_11_code 48 = .ok (.putfield 24, 3) := by decide +kernel
theorem d_Tokens_keep_51 : decode prog_9_method_11_code 51 = .ok (.iload_n 3, 1) := by decide +kernel
theorem d_Tokens_keep_52 : decode prog_9_method_11_code 52 = .ok (.ireturn, 1) := by decide +kernel
theorem d_Tokens_mark_0 : decode prog_9_method_7_code 0 = .ok (.aload_n 0, 1) := by decide +kernel
theorem d_Tokens_mark_1 : decode prog_9_method_7_code 1 = .ok (.getfield 28, 3) := by decide +kernel
theorem d_Tokens_mark_4 : decode prog_9_method_7_code 4 = .ok (.ireturn, 1) := by decide +kernel
theorem d_Tokens_numberOf_0 : decode prog_9_method_9_code 0 = .ok (.lconst 0, 1) := by decide +kernel
theorem d_Tokens_numberOf_1 : decode prog_9_method_9_code 1 = .ok (.lstore_n 2, 1) := by decide +kernel
theorem d_Tokens_numberOf_2 : decode prog_9_method_9_code 2 = .ok (.iconst 0, 1) := by decide +kernel
theorem d_Tokens_numberOf_3 : decode prog_9_method_9_code 3 = .ok (.istore 4, 2) := by decide +kernel
theorem d_Tokens_numberOf_5 : decode prog_9_method_9_code 5 = .ok (.iload 4, 2) := by decide +kernel
theorem d_Tokens_numberOf_7 : decode prog_9_method_9_code 7 = .ok (.iload_n 1, 1) := by decide +kernel
theorem d_Tokens_numberOf_8 : decode prog_9_method_9_code 8 = .ok (.invokestatic 41, 3) := by decide +kernel
theorem d_Tokens_numberOf_11 : decode prog_9_method_9_code 11 = .ok (.if_icmp .ge 34, 3) := by decide +kernel
theorem d_Tokens_numberOf_14 : decode prog_9_method_9_code 14 = .ok (.lload_n 2, 1) := by decide +kernel
theorem d_Tokens_numberOf_15 : decode prog_9_method_9_code 15 = .ok (.ldc2_w 57, 3) := by decide +kernel
theorem d_Tokens_numberOf_18 : decode prog_9_method_9_code 18 = .ok (.lmul, 1) := by decide +kernel
theorem d_Tokens_numberOf_19 : decode prog_9_method_9_code 19 = .ok (.aload_n 0, 1) := by decide +kernel
theorem d_Tokens_numberOf_20 : decode prog_9_method_9_code 20 = .ok (.getfield 10, 3) := by decide +kernel
theorem d_Tokens_numberOf_23 : decode prog_9_method_9_code 23 = .ok (.iload_n 1, 1) := by decide +kernel
theorem d_Tokens_numberOf_24 : decode prog_9_method_9_code 24 = .ok (.invokestatic 49, 3) := by decide +kernel
theorem d_Tokens_numberOf_27 : decode prog_9_method_9_code 27 = .ok (.iload 4, 2) := by decide +kernel
theorem d_Tokens_numberOf_29 : decode prog_9_method_9_code 29 = .ok (.iadd, 1) := by decide +kernel
theorem d_Tokens_numberOf_30 : decode prog_9_method_9_code 30 = .ok (.invokevirtual 34, 3) := by decide +kernel
theorem d_Tokens_numberOf_33 : decode prog_9_method_9_code 33 = .ok (.bipush 48, 2) := by decide +kernel
theorem d_Tokens_numberOf_35 : decode prog_9_method_9_code 35 = .ok (.isub, 1) := by decide +kernel
theorem d_Tokens_numberOf_36 : decode prog_9_method_9_code 36 = .ok (.i2l, 1) := by decide +kernel
theorem d_Tokens_numberOf_37 : decode prog_9_method_9_code 37 = .ok (.ladd, 1) := by decide +kernel
theorem d_Tokens_numberOf_38 : decode prog_9_method_9_code 38 = .ok (.lstore_n 2, 1) := by decide +kernel
theorem d_Tokens_numberOf_39 : decode prog_9_method_9_code 39 = .ok (.iinc 4 1, 3) := by decide +kernel
theorem d_Tokens_numberOf_42 : decode prog_9_method_9_code 42 = .ok (.goto (-37), 3) := by decide +kernel
theorem d_Tokens_numberOf_45 : decode prog_9_method_9_code 45 = .ok (.lload_n 2, 1) := by decide +kernel
theorem d_Tokens_numberOf_46 : decode prog_9_method_9_code 46 = .ok (.lreturn, 1) := by decide +kernel
theorem d_Tokens_signSize_0 : decode prog_9_method_13_code 0 = .ok (.aload_n 0, 1) := by decide +kernel
theorem d_Tokens_signSize_1 : decode prog_9_method_13_code 1 = .ok (.getfield 10, 3) := by decide +kernel
theorem d_Tokens_signSize_4 : decode prog_9_method_13_code 4 = .ok (.iload_n 1, 1) := by decide +kernel
theorem d_Tokens_signSize_5 : decode prog_9_method_13_code 5 = .ok (.invokevirtual 34, 3) := by decide +kernel
theorem d_Tokens_signSize_8 : decode prog_9_method_13_code 8 = .ok (.istore_n 2, 1) := by decide +kernel
theorem d_Tokens_signSize_9 : decode prog_9_method_13_code 9 = .ok (.aload_n 0, 1) := by decide +kernel
theorem d_Tokens_signSize_10 : decode prog_9_method_13_code 10 = .ok (.getfield 10, 3) := by decide +kernel
theorem d_Tokens_signSize_13 : decode prog_9_method_13_code 13 = .ok (.iload_n 1, 1) := by decide +kernel
theorem d_Tokens_signSize_14 : decode prog_9_method_13_code 14 = .ok (.iconst 1, 1) := by decide +kernel
theorem d_Tokens_signSize_15 : decode prog_9_method_13_code 15 = .ok (.iadd, 1) := by decide +kernel
theorem d_Tokens_signSize_16 : decode prog_9_method_13_code 16 = .ok (.invokevirtual 34, 3) := by decide +kernel
theorem d_Tokens_signSize_19 : decode prog_9_method_13_code 19 = .ok (.istore_n 3, 1) := by decide +kernel
theorem d_Tokens_signSize_20 : decode prog_9_method_13_code 20 = .ok (.iload_n 2, 1) := by decide +kernel
theorem d_Tokens_signSize_21 : decode prog_9_method_13_code 21 = .ok (.bipush 60, 2) := by decide +kernel
theorem d_Tokens_signSize_23 : decode prog_9_method_13_code 23 = .ok (.if_icmp .ne 15, 3) := by decide +kernel
theorem d_Tokens_signSize_26 : decode prog_9_method_13_code 26 = .ok (.iload_n 3, 1) := by decide +kernel
theorem d_Tokens_signSize_27 : decode prog_9_method_13_code 27 = .ok (.bipush 61, 2) := by decide +kernel
theorem d_Tokens_signSize_29 : decode prog_9_method_13_code 29 = .ok (.if_icmp .eq 33, 3) := by decide +kernel
theorem d_Tokens_signSize_32 : decode prog_9_method_13_code 32 = .ok (.iload_n 3, 1) := by decide +kernel
theorem d_Tokens_signSize_33 : decode prog_9_method_13_code 33 = .ok (.bipush 62, 2) := by decide +kernel
theorem d_Tokens_signSize_35 : decode prog_9_method_13_code 35 = .ok (.if_icmp .eq 27, 3) := by decide +kernel
theorem d_Tokens_signSize_38 : decode prog_9_method_13_code 38 = .ok (.iload_n 2, 1) := by decide +kernel
theorem d_Tokens_signSize_39 : decode prog_9_method_13_code 39 = .ok (.bipush 62, 2) := by decide +kernel
theorem d_Tokens_signSize_41 : decode prog_9_method_13_code 41 = .ok (.if_icmp .ne 9, 3) := by decide +kernel
theorem d_Tokens_signSize_44 : decode prog_9_method_13_code 44 = .ok (.iload_n 3, 1) := by decide +kernel
theorem d_Tokens_signSize_45 : decode prog_9_method_13_code 45 = .ok (.bipush 61, 2) := by decide +kernel
theorem d_Tokens_signSize_47 : decode prog_9_method_13_code 47 = .ok (.if_icmp .eq 15, 3) := by decide +kernel
theorem d_Tokens_signSize_50 : decode prog_9_method_13_code 50 = .ok (.iload_n 2, 1) := by decide +kernel
theorem d_Tokens_signSize_51 : decode prog_9_method_13_code 51 = .ok (.bipush 124, 2) := by decide +kernel
theorem d_Tokens_signSize_53 : decode prog_9_method_13_code 53 = .ok (.if_icmp .ne 13, 3) := by decide +kernel
theorem d_Tokens_signSize_56 : decode prog_9_method_13_code 56 = .ok (.iload_n 3, 1) := by decide +kernel
theorem d_Tokens_signSize_57 : decode prog_9_method_13_code 57 = .ok (.bipush 124, 2) := by decide +kernel
theorem d_Tokens_signSize_59 : decode prog_9_method_13_code 59 = .ok (.if_icmp .ne 7, 3) := by decide +kernel
theorem d_Tokens_signSize_62 : decode prog_9_method_13_code 62 = .ok (.iconst 1, 1) := by decide +kernel
theorem d_Tokens_signSize_63 : decode prog_9_method_13_code 63 = .ok (.goto 4, 3) := by decide +kernel
theorem d_Tokens_signSize_66 : decode prog_9_method_13_code 66 = .ok (.iconst 0, 1) := by decide +kernel
theorem d_Tokens_signSize_67 : decode prog_9_method_13_code 67 = .ok (.istore 4, 2) := by decide +kernel
theorem d_Tokens_signSize_69 : decode prog_9_method_13_code 69 = .ok (.iload 4, 2) := by decide +kernel
theorem d_Tokens_signSize_71 : decode prog_9_method_13_code 71 = .ok (.ifCond .eq 5, 3) := by decide +kernel
theorem d_Tokens_signSize_74 : decode prog_9_method_13_code 74 = .ok (.iconst 2, 1) := by decide +kernel
theorem d_Tokens_signSize_75 : decode prog_9_method_13_code 75 = .ok (.ireturn, 1) := by decide +kernel
theorem d_Tokens_signSize_76 : decode prog_9_method_13_code 76 = .ok (.ldc 96, 2) := by decide +kernel
theorem d_Tokens_signSize_78 : decode prog_9_method_13_code 78 = .ok (.iload_n 2, 1) := by decide +kernel
theorem d_Tokens_signSize_79 : decode prog_9_method_13_code 79 = .ok (.i2c, 1) := by decide +kernel
theorem d_Tokens_signSize_80 : decode prog_9_method_13_code 80 = .ok (.invokevirtual 98, 3) := by decide +kernel
theorem d_Tokens_signSize_83 : decode prog_9_method_13_code 83 = .ok (.ifCond .lt 7, 3) := by decide +kernel
theorem d_Tokens_signSize_86 : decode prog_9_method_13_code 86 = .ok (.iconst 1, 1) := by decide +kernel
theorem d_Tokens_signSize_87 : decode prog_9_method_13_code 87 = .ok (.goto 4, 3) := by decide +kernel
theorem d_Tokens_signSize_90 : decode prog_9_method_13_code 90 = .ok (.iconst 0, 1) := by decide +kernel
theorem d_Tokens_signSize_91 : decode prog_9_method_13_code 91 = .ok (.ireturn, 1) := by decide +kernel
theorem d_Tokens_take_0 : decode prog_9_method_6_code 0 = .ok (.aload_n 0, 1) := by decide +kernel
theorem d_Tokens_take_1 : decode prog_9_method_6_code 1 = .ok (.getfield 28, 3) := by decide +kernel
theorem d_Tokens_take_4 : decode prog_9_method_6_code 4 = .ok (.aload_n 0, 1) := by decide +kernel
theorem d_Tokens_take_5 : decode prog_9_method_6_code 5 = .ok (.getfield 24, 3) := by decide +kernel
theorem d_Tokens_take_8 : decode prog_9_method_6_code 8 = .ok (.if_icmp .ge 19, 3) := by decide +kernel
theorem d_Tokens_take_11 : decode prog_9_method_6_code 11 = .ok (.aload_n 0, 1) := by decide +kernel
theorem d_Tokens_take_12 : decode prog_9_method_6_code 12 = .ok (.getfield 16, 3) := by decide +kernel
theorem d_Tokens_take_15 : decode prog_9_method_6_code 15 = .ok (.aload_n 0, 1) := by decide +kernel
theorem d_Tokens_take_16 : decode prog_9_method_6_code 16 = .ok (.getfield 28, 3) := by decide +kernel
theorem d_Tokens_take_19 : decode prog_9_method_6_code 19 = .ok (.iaload, 1) := by decide +kernel
theorem d_Tokens_take_20 : decode prog_9_method_6_code 20 = .ok (.bipush 16, 2) := by decide +kernel
theorem d_Tokens_take_22 : decode prog_9_method_6_code 22 = .ok (.ishr, 1) := by decide +kernel
theorem d_Tokens_take_23 : decode prog_9_method_6_code 23 = .ok (.iload_n 1, 1) := by decide +kernel
theorem d_Tokens_take_24 : decode prog_9_method_6_code 24 = .ok (.if_icmp .eq 5, 3) := by decide +kernel
theorem d_Tokens_take_27 : decode prog_9_method_6_code 27 = .ok (.iconst (-1), 1) := by decide +kernel
theorem d_Tokens_take_28 : decode prog_9_method_6_code 28 = .ok (.ireturn, 1) := by decide +kernel
theorem d_Tokens_take_29 : decode prog_9_method_6_code 29 = .ok (.aload_n 0, 1) := by decide +kernel
theorem d_Tokens_take_30 : decode prog_9_method_6_code 30 = .ok (.dup, 1) := by decide +kernel
theorem d_Tokens_take_31 : decode prog_9_method_6_code 31 = .ok (.getfield 28, 3) := by decide +kernel
theorem d_Tokens_take_34 : decode prog_9_method_6_code 34 = .ok (.iconst 1, 1) := by decide +kernel
theorem d_Tokens_take_35 : decode prog_9_method_6_code 35 = .ok (.iadd, 1) := by decide +kernel
theorem d_Tokens_take_36 : decode prog_9_method_6_code 36 = .ok (.putfield 28, 3) := by decide +kernel
theorem d_Tokens_take_39 : decode prog_9_method_6_code 39 = .ok (.aload_n 0, 1) := by decide +kernel
theorem d_Tokens_take_40 : decode prog_9_method_6_code 40 = .ok (.getfield 16, 3) := by decide +kernel
theorem d_Tokens_take_43 : decode prog_9_method_6_code 43 = .ok (.aload_n 0, 1) := by decide +kernel
theorem d_Tokens_take_44 : decode prog_9_method_6_code 44 = .ok (.getfield 28, 3) := by decide +kernel
theorem d_Tokens_take_47 : decode prog_9_method_6_code 47 = .ok (.iconst 1, 1) := by decide +kernel
theorem d_Tokens_take_48 : decode prog_9_method_6_code 48 = .ok (.isub, 1) := by decide +kernel
theorem d_Tokens_take_49 : decode prog_9_method_6_code 49 = .ok (.iaload, 1) := by decide +kernel
theorem d_Tokens_take_50 : decode prog_9_method_6_code 50 = .ok (.ldc 56, 2) := by decide +kernel
theorem d_Tokens_take_52 : decode prog_9_method_6_code 52 = .ok (.iand, 1) := by decide +kernel
theorem d_Tokens_take_53 : decode prog_9_method_6_code 53 = .ok (.ireturn, 1) := by decide +kernel
theorem d_Tokens_takes_0 : decode prog_9_method_5_code 0 = .ok (.aload_n 0, 1) := by decide +kernel
theorem d_Tokens_takes_1 : decode prog_9_method_5_code 1 = .ok (.getfield 28, 3) := by decide +kernel
theorem d_Tokens_takes_4 : decode prog_9_method_5_code 4 = .ok (.aload_n 0, 1) := by decide +kernel
theorem d_Tokens_takes_5 : decode prog_9_method_5_code 5 = .ok (.getfield 24, 3) := by decide +kernel
theorem d_Tokens_takes_8 : decode prog_9_method_5_code 8 = .ok (.if_icmp .ge 15, 3) := by decide +kernel
theorem d_Tokens_takes_11 : decode prog_9_method_5_code 11 = .ok (.aload_n 0, 1) := by decide +kernel
theorem d_Tokens_takes_12 : decode prog_9_method_5_code 12 = .ok (.getfield 16, 3) := by decide +kernel
theorem d_Tokens_takes_15 : decode prog_9_method_5_code 15 = .ok (.aload_n 0, 1) := by decide +kernel
theorem d_Tokens_takes_16 : decode prog_9_method_5_code 16 = .ok (.getfield 28, 3) := by decide +kernel
theorem d_Tokens_takes_19 : decode prog_9_method_5_code 19 = .ok (.iaload, 1) := by decide +kernel
theorem d_Tokens_takes_20 : decode prog_9_method_5_code 20 = .ok (.goto 4, 3) := by decide +kernel
theorem d_Tokens_takes_23 : decode prog_9_method_5_code 23 = .ok (.iconst (-1), 1) := by decide +kernel
theorem d_Tokens_takes_24 : decode prog_9_method_5_code 24 = .ok (.istore_n 2, 1) := by decide +kernel
theorem d_Tokens_takes_25 : decode prog_9_method_5_code 25 = .ok (.iload_n 2, 1) := by decide +kernel
theorem d_Tokens_takes_26 : decode prog_9_method_5_code 26 = .ok (.bipush 16, 2) := by decide +kernel
theorem d_Tokens_takes_28 : decode prog_9_method_5_code 28 = .ok (.ishr, 1) := by decide +kernel
theorem d_Tokens_takes_29 : decode prog_9_method_5_code 29 = .ok (.ifCond .ne 14, 3) := by decide +kernel
theorem d_Tokens_takes_32 : decode prog_9_method_5_code 32 = .ok (.iload_n 2, 1) := by decide +kernel
theorem d_Tokens_takes_33 : decode prog_9_method_5_code 33 = .ok (.invokestatic 41, 3) := by decide +kernel
theorem d_Tokens_takes_36 : decode prog_9_method_5_code 36 = .ok (.aload_n 1, 1) := by decide +kernel
theorem d_Tokens_takes_37 : decode prog_9_method_5_code 37 = .ok (.invokevirtual 44, 3) := by decide +kernel
theorem d_Tokens_takes_40 : decode prog_9_method_5_code 40 = .ok (.if_icmp .eq 5, 3) := by decide +kernel
theorem d_Tokens_takes_43 : decode prog_9_method_5_code 43 = .ok (.iconst 0, 1) := by decide +kernel
theorem d_Tokens_takes_44 : decode prog_9_method_5_code 44 = .ok (.ireturn, 1) := by decide +kernel
theorem d_Tokens_takes_45 : decode prog_9_method_5_code 45 = .ok (.iload_n 2, 1) := by decide +kernel
theorem d_Tokens_takes_46 : decode prog_9_method_5_code 46 = .ok (.invokestatic 49, 3) := by decide +kernel
theorem d_Tokens_takes_49 : decode prog_9_method_5_code 49 = .ok (.istore_n 3, 1) := by decide +kernel
theorem d_Tokens_takes_50 : decode prog_9_method_5_code 50 = .ok (.iconst 0, 1) := by decide +kernel
theorem d_Tokens_takes_51 : decode prog_9_method_5_code 51 = .ok (.istore 4, 2) := by decide +kernel
theorem d_Tokens_takes_53 : decode prog_9_method_5_code 53 = .ok (.iload 4, 2) := by decide +kernel
theorem d_Tokens_takes_55 : decode prog_9_method_5_code 55 = .ok (.aload_n 1, 1) := by decide +kernel
theorem d_Tokens_takes_56 : decode prog_9_method_5_code 56 = .ok (.invokevirtual 44, 3) := by decide +kernel
theorem d_Tokens_takes_59 : decode prog_9_method_5_code 59 = .ok (.if_icmp .ge 31, 3) := by decide +kernel
theorem d_Tokens_takes_62 : decode prog_9_method_5_code 62 = .ok (.aload_n 0, 1) := by decide +kernel
theorem d_Tokens_takes_63 : decode prog_9_method_5_code 63 = .ok (.getfield 10, 3) := by decide +kernel
theorem d_Tokens_takes_66 : decode prog_9_method_5_code 66 = .ok (.iload_n 3, 1) := by decide +kernel
theorem d_Tokens_takes_67 : decode prog_9_method_5_code 67 = .ok (.iload 4, 2) := by decide +kernel
theorem d_Tokens_takes_69 : decode prog_9_method_5_code 69 = .ok (.iadd, 1) := by decide +kernel
theorem d_Tokens_takes_70 : decode prog_9_method_5_code 70 = .ok (.invokevirtual 34, 3) := by decide +kernel
theorem d_Tokens_takes_73 : decode prog_9_method_5_code 73 = .ok (.aload_n 1, 1) := by decide +kernel
theorem d_Tokens_takes_74 : decode prog_9_method_5_code 74 = .ok (.iload 4, 2) := by decide +kernel
theorem d_Tokens_takes_76 : decode prog_9_method_5_code 76 = .ok (.invokevirtual 52, 3) := by decide +kernel
theorem d_Tokens_takes_79 : decode prog_9_method_5_code 79 = .ok (.if_icmp .eq 5, 3) := by decide +kernel
theorem d_Tokens_takes_82 : decode prog_9_method_5_code 82 = .ok (.iconst 0, 1) := by decide +kernel
theorem d_Tokens_takes_83 : decode prog_9_method_5_code 83 = .ok (.ireturn, 1) := by decide +kernel
theorem d_Tokens_takes_84 : decode prog_9_method_5_code 84 = .ok (.iinc 4 1, 3) := by decide +kernel
theorem d_Tokens_takes_87 : decode prog_9_method_5_code 87 = .ok (.goto (-34), 3) := by decide +kernel
theorem d_Tokens_takes_90 : decode prog_9_method_5_code 90 = .ok (.aload_n 0, 1) := by decide +kernel
theorem d_Tokens_takes_91 : decode prog_9_method_5_code 91 = .ok (.dup, 1) := by decide +kernel
theorem d_Tokens_takes_92 : decode prog_9_method_5_code 92 = .ok (.getfield 28, 3) := by decide +kernel
theorem d_Tokens_takes_95 : decode prog_9_method_5_code 95 = .ok (.iconst 1, 1) := by decide +kernel
theorem d_Tokens_takes_96 : decode prog_9_method_5_code 96 = .ok (.iadd, 1) := by decide +kernel
theorem d_Tokens_takes_97 : decode prog_9_method_5_code 97 = .ok (.putfield 28, 3) := by decide +kernel
theorem d_Tokens_takes_100 : decode prog_9_method_5_code 100 = .ok (.iconst 1, 1) := by decide +kernel
theorem d_Tokens_takes_101 : decode prog_9_method_5_code 101 = .ok (.ireturn, 1) := by decide +kernel
theorem d_Tokens_text_0 : decode prog_9_method_2_code 0 = .ok (.aload_n 0, 1) := by decide +kernel
theorem d_Tokens_text_1 : decode prog_9_method_2_code 1 = .ok (.getfield 10, 3) := by decide +kernel
theorem d_Tokens_text_4 : decode prog_9_method_2_code 4 = .ok (.areturn, 1) := by decide +kernel
theorem d_String_charAt_0 : decode prog_14_method_56_code 0 = .ok (.aload_n 0, 1) := by decide +kernel
theorem d_String_charAt_1 : decode prog_14_method_56_code 1 = .ok (.invokevirtual 492, 3) := by decide +kernel
theorem d_String_charAt_4 : decode prog_14_method_56_code 4 = .ok (.ifCond .eq 12, 3) := by decide +kernel
theorem d_String_charAt_7 : decode prog_14_method_56_code 7 = .ok (.aload_n 0, 1) := by decide +kernel
theorem d_String_charAt_8 : decode prog_14_method_56_code 8 = .ok (.getfield 9, 3) := by decide +kernel
theorem d_String_charAt_11 : decode prog_14_method_56_code 11 = .ok (.iload_n 1, 1) := by decide +kernel
theorem d_String_charAt_12 : decode prog_14_method_56_code 12 = .ok (.invokestatic 495, 3) := by decide +kernel
theorem d_String_charAt_15 : decode prog_14_method_56_code 15 = .ok (.ireturn, 1) := by decide +kernel
theorem d_String_charAt_16 : decode prog_14_method_56_code 16 = .ok (.aload_n 0, 1) := by decide +kernel
theorem d_String_charAt_17 : decode prog_14_method_56_code 17 = .ok (.getfield 9, 3) := by decide +kernel
theorem d_String_charAt_20 : decode prog_14_method_56_code 20 = .ok (.iload_n 1, 1) := by decide +kernel
theorem d_String_charAt_21 : decode prog_14_method_56_code 21 = .ok (.invokestatic 498, 3) := by decide +kernel
theorem d_String_charAt_24 : decode prog_14_method_56_code 24 = .ok (.ireturn, 1) := by decide +kernel
theorem d_String_checkIndex_0 : decode prog_14_method_155_code 0 = .ok (.iload_n 0, 1) := by decide +kernel
theorem d_String_checkIndex_1 : decode prog_14_method_155_code 1 = .ok (.iload_n 1, 1) := by decide +kernel
theorem d_String_checkIndex_2 : decode prog_14_method_155_code 2 = .ok (.getstatic 1053, 3) := by decide +kernel
theorem d_String_checkIndex_5 : decode prog_14_method_155_code 5 = .ok (.invokestatic 1059, 3) := by decide +kernel
theorem d_String_checkIndex_8 : decode prog_14_method_155_code 8 = .ok (.pop, 1) := by decide +kernel
theorem d_String_checkIndex_9 : decode prog_14_method_155_code 9 = .ok (.return_, 1) := by decide +kernel
theorem d_String_coder_0 : decode prog_14_method_152_code 0 = .ok (.getstatic 38, 3) := by decide +kernel
theorem d_String_coder_3 : decode prog_14_method_152_code 3 = .ok (.ifCond .eq 10, 3) := by decide +kernel
theorem d_String_coder_6 : decode prog_14_method_152_code 6 = .ok (.aload_n 0, 1) := by decide +kernel
theorem d_String_coder_7 : decode prog_14_method_152_code 7 = .ok (.getfield 15, 3) := by decide +kernel
theorem d_String_coder_10 : decode prog_14_method_152_code 10 = .ok (.goto 4, 3) := by decide +kernel
theorem d_String_coder_13 : decode prog_14_method_152_code 13 = .ok (.iconst 1, 1) := by decide +kernel
theorem d_String_coder_14 : decode prog_14_method_152_code 14 = .ok (.ireturn, 1) := by decide +kernel
theorem d_String_indexOf0_0 : decode prog_14_method_79_code 0 = .ok (.aload_n 0, 1) := by decide +kernel
theorem d_String_indexOf0_1 : decode prog_14_method_79_code 1 = .ok (.iload_n 1, 1) := by decide +kernel
theorem d_String_indexOf0_2 : decode prog_14_method_79_code 2 = .ok (.iconst 0, 1) := by decide +kernel
theorem d_String_indexOf0_3 : decode prog_14_method_79_code 3 = .ok (.invokevirtual 633, 3) := by decide +kernel
theorem d_String_indexOf0_6 : decode prog_14_method_79_code 6 = .ok (.ireturn, 1) := by decide +kernel
theorem d_String_indexOf1_0 : decode prog_14_method_80_code 0 = .ok (.aload_n 0, 1) := by decide +kernel
theorem d_String_indexOf1_1 : decode prog_14_method_80_code 1 = .ok (.invokevirtual 492, 3) := by decide +kernel
theorem d_String_indexOf1_4 : decode prog_14_method_80_code 4 = .ok (.ifCond .eq 19, 3) := by decide +kernel
theorem d_String_indexOf1_7 : decode prog_14_method_80_code 7 = .ok (.aload_n 0, 1) := by decide +kernel
theorem d_String_indexOf1_8 : decode prog_14_method_80_code 8 = .ok (.getfield 9, 3) := by decide +kernel
theorem d_String_indexOf1_11 : decode prog_14_method_80_code 11 = .ok (.iload_n 1, 1) := by decide +kernel
theorem d_String_indexOf1_12 : decode prog_14_method_80_code 12 = .ok (.iload_n 2, 1) := by decide +kernel
theorem d_String_indexOf1_13 : decode prog_14_method_80_code 13 = .ok (.aload_n 0, 1) := by decide +kernel
theorem d_String_indexOf1_14 : decode prog_14_method_80_code 14 = .ok (.invokevirtual 505, 3) := by decide +kernel
theorem d_String_indexOf1_17 : decode prog_14_method_80_code 17 = .ok (.invokestatic 637, 3) := by decide +kernel
theorem d_String_indexOf1_20 : decode prog_14_method_80_code 20 = .ok (.goto 16, 3) := by decide +kernel
theorem d_String_indexOf1_23 : decode prog_14_method_80_code 23 = .ok (.aload_n 0, 1) := by decide +kernel
theorem d_String_indexOf1_24 : decode prog_14_method_80_code 24 = .ok (.getfield 9, 3) := by decide +kernel
theorem d_String_indexOf1_27 : decode prog_14_method_80_code 27 = .ok (.iload_n 1, 1) := by decide +kernel
theorem d_String_indexOf1_28 : decode prog_14_method_80_code 28 = .ok (.iload_n 2, 1) := by decide +kernel
theorem d_String_indexOf1_29 : decode prog_14_method_80_code 29 = .ok (.aload_n 0, 1) := by decide +kernel
theorem d_String_indexOf1_30 : decode prog_14_method_80_code 30 = .ok (.invokevirtual 505, 3) := by decide +kernel
theorem d_String_indexOf1_33 : decode prog_14_method_80_code 33 = .ok (.invokestatic 640, 3) := by decide +kernel
theorem d_String_indexOf1_36 : decode prog_14_method_80_code 36 = .ok (.ireturn, 1) := by decide +kernel
theorem d_String_isLatin1_0 : decode prog_14_method_154_code 0 = .ok (.getstatic 38, 3) := by decide +kernel
theorem d_String_isLatin1_3 : decode prog_14_method_154_code 3 = .ok (.ifCond .eq 14, 3) := by decide +kernel
theorem d_String_isLatin1_6 : decode prog_14_method_154_code 6 = .ok (.aload_n 0, 1) := by decide +kernel
theorem d_String_isLatin1_7 : decode prog_14_method_154_code 7 = .ok (.getfield 15, 3) := by decide +kernel
theorem d_String_isLatin1_10 : decode prog_14_method_154_code 10 = .ok (.ifCond .ne 7, 3) := by decide +kernel
theorem d_String_isLatin1_13 : decode prog_14_method_154_code 13 = .ok (.iconst 1, 1) := by decide +kernel
theorem d_String_isLatin1_14 : decode prog_14_method_154_code 14 = .ok (.goto 4, 3) := by decide +kernel
theorem d_String_isLatin1_17 : decode prog_14_method_154_code 17 = .ok (.iconst 0, 1) := by decide +kernel
theorem d_String_isLatin1_18 : decode prog_14_method_154_code 18 = .ok (.ireturn, 1) := by decide +kernel
theorem d_String_length_0 : decode prog_14_method_54_code 0 = .ok (.aload_n 0, 1) := by decide +kernel
theorem d_String_length_1 : decode prog_14_method_54_code 1 = .ok (.getfield 9, 3) := by decide +kernel
theorem d_String_length_4 : decode prog_14_method_54_code 4 = .ok (.arraylength, 1) := by decide +kernel
theorem d_String_length_5 : decode prog_14_method_54_code 5 = .ok (.aload_n 0, 1) := by decide +kernel
theorem d_String_length_6 : decode prog_14_method_54_code 6 = .ok (.invokevirtual 335, 3) := by decide +kernel
theorem d_String_length_9 : decode prog_14_method_54_code 9 = .ok (.ishr, 1) := by decide +kernel
theorem d_String_length_10 : decode prog_14_method_54_code 10 = .ok (.ireturn, 1) := by decide +kernel
theorem d_StringLatin1_canEncode_0 : decode prog_15_method_4_code 0 = .ok (.iload_n 0, 1) := by decide +kernel
theorem d_StringLatin1_canEncode_1 : decode prog_15_method_4_code 1 = .ok (.ifCond .lt 14, 3) := by decide +kernel
theorem d_StringLatin1_canEncode_4 : decode prog_15_method_4_code 4 = .ok (.iload_n 0, 1) := by decide +kernel
theorem d_StringLatin1_canEncode_5 : decode prog_15_method_4_code 5 = .ok (.sipush 255, 3) := by decide +kernel
theorem d_StringLatin1_canEncode_8 : decode prog_15_method_4_code 8 = .ok (.if_icmp .gt 7, 3) := by decide +kernel
theorem d_StringLatin1_canEncode_11 : decode prog_15_method_4_code 11 = .ok (.iconst 1, 1) := by decide +kernel
theorem d_StringLatin1_canEncode_12 : decode prog_15_method_4_code 12 = .ok (.goto 4, 3) := by decide +kernel
theorem d_StringLatin1_canEncode_15 : decode prog_15_method_4_code 15 = .ok (.iconst 0, 1) := by decide +kernel
theorem d_StringLatin1_canEncode_16 : decode prog_15_method_4_code 16 = .ok (.ireturn, 1) := by decide +kernel
theorem d_StringLatin1_charAt_0 : decode prog_15_method_2_code 0 = .ok (.iload_n 1, 1) := by decide +kernel
theorem d_StringLatin1_charAt_1 : decode prog_15_method_2_code 1 = .ok (.aload_n 0, 1) := by decide +kernel
theorem d_StringLatin1_charAt_2 : decode prog_15_method_2_code 2 = .ok (.arraylength, 1) := by decide +kernel
theorem d_StringLatin1_charAt_3 : decode prog_15_method_2_code 3 = .ok (.invokestatic 9, 3) := by decide +kernel
theorem d_StringLatin1_charAt_6 : decode prog_15_method_2_code 6 = .ok (.aload_n 0, 1) := by decide +kernel
theorem d_StringLatin1_charAt_7 : decode prog_15_method_2_code 7 = .ok (.iload_n 1, 1) := by decide +kernel
theorem d_StringLatin1_charAt_8 : decode prog_15_method_2_code 8 = .ok (.baload, 1) := by decide +kernel
theorem d_StringLatin1_charAt_9 : decode prog_15_method_2_code 9 = .ok (.sipush 255, 3) := by decide +kernel
theorem d_StringLatin1_charAt_12 : decode prog_15_method_2_code 12 = .ok (.iand, 1) := by decide +kernel
theorem d_StringLatin1_charAt_13 : decode prog_15_method_2_code 13 = .ok (.i2c, 1) := by decide +kernel
theorem d_StringLatin1_charAt_14 : decode prog_15_method_2_code 14 = .ok (.ireturn, 1) := by decide +kernel
theorem d_StringLatin1_indexOf_0 : decode prog_15_method_22_code 0 = .ok (.iload_n 1, 1) := by decide +kernel
theorem d_StringLatin1_indexOf_1 : decode prog_15_method_22_code 1 = .ok (.invokestatic 88, 3) := by decide +kernel
theorem d_StringLatin1_indexOf_4 : decode prog_15_method_22_code 4 = .ok (.ifCond .ne 5, 3) := by decide +kernel
theorem d_StringLatin1_indexOf_7 : decode prog_15_method_22_code 7 = .ok (.iconst (-1), 1) := by decide +kernel
theorem d_StringLatin1_indexOf_8 : decode prog_15_method_22_code 8 = .ok (.ireturn, 1) := by decide +kernel
theorem d_StringLatin1_indexOf_9 : decode prog_15_method_22_code 9 = .ok (.iload_n 2, 1) := by decide +kernel
theorem d_StringLatin1_indexOf_10 : decode prog_15_method_22_code 10 = .ok (.iconst 0, 1) := by decide +kernel
theorem d_StringLatin1_indexOf_11 : decode prog_15_method_22_code 11 = .ok (.invokestatic 92, 3) := by decide +kernel
theorem d_StringLatin1_indexOf_14 : decode prog_15_method_22_code 14 = .ok (.istore_n 2, 1) := by decide +kernel
theorem d_StringLatin1_indexOf_15 : decode prog_15_method_22_code 15 = .ok (.iload_n 3, 1) := by decide +kernel
theorem d_StringLatin1_indexOf_16 : decode prog_15_method_22_code 16 = .ok (.aload_n 0, 1) := by decide +kernel
theorem d_StringLatin1_indexOf_17 : decode prog_15_method_22_code 17 = .ok (.arraylength, 1) := by decide +kernel
theorem d_StringLatin1_indexOf_18 : decode prog_15_method_22_code 18 = .ok (.invokestatic 38, 3) := by decide +kernel
theorem d_StringLatin1_indexOf_21 : decode prog_15_method_22_code 21 = .ok (.istore_n 3, 1) := by decide +kernel
theorem d_StringLatin1_indexOf_22 : decode prog_15_method_22_code 22 = .ok (.iload_n 2, 1) := by decide +kernel
theorem d_StringLatin1_indexOf_23 : decode prog_15_method_22_code 23 = .ok (.iload_n 3, 1) := by decide +kernel
theorem d_StringLatin1_indexOf_24 : decode prog_15_method_22_code 24 = .ok (.if_icmp .lt 5, 3) := by decide +kernel
theorem d_StringLatin1_indexOf_27 : decode prog_15_method_22_code 27 = .ok (.iconst (-1), 1) := by decide +kernel
theorem d_StringLatin1_indexOf_28 : decode prog_15_method_22_code 28 = .ok (.ireturn, 1) := by decide +kernel
theorem d_StringLatin1_indexOf_29 : decode prog_15_method_22_code 29 = .ok (.aload_n 0, 1) := by decide +kernel
theorem d_StringLatin1_indexOf_30 : decode prog_15_method_22_code 30 = .ok (.iload_n 1, 1) := by decide +kernel
theorem d_StringLatin1_indexOf_31 : decode prog_15_method_22_code 31 = .ok (.iload_n 2, 1) := by decide +kernel
theorem d_StringLatin1_indexOf_32 : decode prog_15_method_22_code 32 = .ok (.iload_n 3, 1) := by decide +kernel
theorem d_StringLatin1_indexOf_33 : decode prog_15_method_22_code 33 = .ok (.invokestatic 95, 3) := by decide +kernel
theorem d_StringLatin1_indexOf_36 : decode prog_15_method_22_code 36 = .ok (.ireturn, 1) := by decide +kernel
theorem d_StringLatin1_indexOfChar_0 : decode prog_15_method_23_code 0 = .ok (.iload_n 1, 1) := by decide +kernel
theorem d_StringLatin1_indexOfChar_1 : decode prog_15_method_23_code 1 = .ok (.i2b, 1) := by decide +kernel
theorem d_StringLatin1_indexOfChar_2 : decode prog_15_method_23_code 2 = .ok (.istore 4, 2) := by decide +kernel
theorem d_StringLatin1_indexOfChar_4 : decode prog_15_method_23_code 4 = .ok (.iload_n 2, 1) := by decide +kernel
theorem d_StringLatin1_indexOfChar_5 : decode prog_15_method_23_code 5 = .ok (.istore 5, 2) := by decide +kernel
theorem d_StringLatin1_indexOfChar_7 : decode prog_15_method_23_code 7 = .ok (.iload 5, 2) := by decide +kernel
theorem d_StringLatin1_indexOfChar_9 : decode prog_15_method_23_code 9 = .ok (.iload_n 3, 1) := by decide +kernel
theorem d_StringLatin1_indexOfChar_10 : decode prog_15_method_23_code 10 = .ok (.if_icmp .ge 21, 3) := by decide +kernel
theorem d_StringLatin1_indexOfChar_13 : decode prog_15_method_23_code 13 = .ok (.aload_n 0, 1) := by decide +kernel
theorem d_StringLatin1_indexOfChar_14 : decode prog_15_method_23_code 14 = .ok (.iload 5, 2) := by decide +kernel
theorem d_StringLatin1_indexOfChar_16 : decode prog_15_method_23_code 16 = .ok (.baload, 1) := by decide +kernel
theorem d_StringLatin1_indexOfChar_17 : decode prog_15_method_23_code 17 = .ok (.iload 4, 2) := by decide +kernel
theorem d_StringLatin1_indexOfChar_19 : decode prog_15_method_23_code 19 = .ok (.if_icmp .ne 6, 3) := by decide +kernel
theorem d_StringLatin1_indexOfChar_22 : decode prog_15_method_23_code 22 = .ok (.iload 5, 2) := by decide +kernel
theorem d_StringLatin1_indexOfChar_24 : decode prog_15_method_23_code 24 = .ok (.ireturn, 1) := by decide +kernel
theorem d_StringLatin1_indexOfChar_25 : decode prog_15_method_23_code 25 = .ok (.iinc 5 1, 3) := by decide +kernel
theorem d_StringLatin1_indexOfChar_28 : decode prog_15_method_23_code 28 = .ok (.goto (-21), 3) := by decide +kernel
theorem d_StringLatin1_indexOfChar_31 : decode prog_15_method_23_code 31 = .ok (.iconst (-1), 1) := by decide +kernel
theorem d_StringLatin1_indexOfChar_32 : decode prog_15_method_23_code 32 = .ok (.ireturn, 1) := by decide +kernel
theorem d_Arrays_fill_0 : decode prog_18_method_103_code 0 = .ok (.iconst 0, 1) := by decide +kernel
theorem d_Arrays_fill_1 : decode prog_18_method_103_code 1 = .ok (.istore_n 2, 1) := by decide +kernel
theorem d_Arrays_fill_2 : decode prog_18_method_103_code 2 = .ok (.aload_n 0, 1) := by decide +kernel
theorem d_Arrays_fill_3 : decode prog_18_method_103_code 3 = .ok (.arraylength, 1) := by decide +kernel
theorem d_Arrays_fill_4 : decode prog_18_method_103_code 4 = .ok (.istore_n 3, 1) := by decide +kernel
theorem d_Arrays_fill_5 : decode prog_18_method_103_code 5 = .ok (.iload_n 2, 1) := by decide +kernel
theorem d_Arrays_fill_6 : decode prog_18_method_103_code 6 = .ok (.iload_n 3, 1) := by decide +kernel
theorem d_Arrays_fill_7 : decode prog_18_method_103_code 7 = .ok (.if_icmp .ge 13, 3) := by decide +kernel
theorem d_Arrays_fill_10 : decode prog_18_method_103_code 10 = .ok (.aload_n 0, 1) := by decide +kernel
theorem d_Arrays_fill_11 : decode prog_18_method_103_code 11 = .ok (.iload_n 2, 1) := by decide +kernel
theorem d_Arrays_fill_12 : decode prog_18_method_103_code 12 = .ok (.iload_n 1, 1) := by decide +kernel
theorem d_Arrays_fill_13 : decode prog_18_method_103_code 13 = .ok (.iastore, 1) := by decide +kernel
theorem d_Arrays_fill_14 : decode prog_18_method_103_code 14 = .ok (.iinc 2 1, 3) := by decide +kernel
theorem d_Arrays_fill_17 : decode prog_18_method_103_code 17 = .ok (.goto (-12), 3) := by decide +kernel
theorem d_Arrays_fill_20 : decode prog_18_method_103_code 20 = .ok (.return_, 1) := by decide +kernel
theorem d_Preconditions_checkIndex_0 : decode prog_19_method_11_code 0 = .ok (.iload_n 0, 1) := by decide +kernel
theorem d_Preconditions_checkIndex_1 : decode prog_19_method_11_code 1 = .ok (.ifCond .lt 8, 3) := by decide +kernel
theorem d_Preconditions_checkIndex_4 : decode prog_19_method_11_code 4 = .ok (.iload_n 0, 1) := by decide +kernel
theorem d_Preconditions_checkIndex_5 : decode prog_19_method_11_code 5 = .ok (.iload_n 1, 1) := by decide +kernel
theorem d_Preconditions_checkIndex_6 : decode prog_19_method_11_code 6 = .ok (.if_icmp .lt 10, 3) := by decide +kernel
theorem d_Preconditions_checkIndex_9 : decode prog_19_method_11_code 9 = .ok (.aload_n 2, 1) := by decide +kernel
theorem d_Preconditions_checkIndex_10 : decode prog_19_method_11_code 10 = .ok (.iload_n 0, 1) := by decide +kernel
theorem d_Preconditions_checkIndex_11 : decode prog_19_method_11_code 11 = .ok (.iload_n 1, 1) := by decide +kernel
theorem d_Preconditions_checkIndex_12 : decode prog_19_method_11_code 12 = .ok (.invokestatic 95, 3) := by decide +kernel
theorem d_Preconditions_checkIndex_16 : decode prog_19_method_11_code 16 = .ok (.iload_n 0, 1) := by decide +kernel
theorem d_Preconditions_checkIndex_17 : decode prog_19_method_11_code 17 = .ok (.ireturn, 1) := by decide +kernel
