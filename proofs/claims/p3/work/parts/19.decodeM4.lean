theorem d_SqlReaderModel_readItems_0 : decode prog_11_method_53_code 0 = .ok (.aload_n 0, 1) := by decide +kernel
theorem d_SqlReaderModel_readItems_1 : decode prog_11_method_53_code 1 = .ok (.iconst 1, 1) := by decide +kernel
theorem d_SqlReaderModel_readItems_2 : decode prog_11_method_53_code 2 = .ok (.putfield 400, 3) := by decide +kernel
theorem d_SqlReaderModel_readItems_5 : decode prog_11_method_53_code 5 = .ok (.aload_n 0, 1) := by decide +kernel
theorem d_SqlReaderModel_readItems_6 : decode prog_11_method_53_code 6 = .ok (.aload_n 0, 1) := by decide +kernel
theorem d_SqlReaderModel_readItems_7 : decode prog_11_method_53_code 7 = .ok (.ldc_w 315, 3) := by decide +kernel
theorem d_SqlReaderModel_readItems_10 : decode prog_11_method_53_code 10 = .ok (.invokevirtual 421, 3) := by decide +kernel
theorem d_SqlReaderModel_readItems_13 : decode prog_11_method_53_code 13 = .ok (.putfield 158, 3) := by decide +kernel
theorem d_SqlReaderModel_readItems_16 : decode prog_11_method_53_code 16 = .ok (.aload_n 0, 1) := by decide +kernel
theorem d_SqlReaderModel_readItems_17 : decode prog_11_method_53_code 17 = .ok (.getfield 158, 3) := by decide +kernel
theorem d_SqlReaderModel_readItems_20 : decode prog_11_method_53_code 20 = .ok (.ifCond .eq 11, 3) := by decide +kernel
theorem d_SqlReaderModel_readItems_23 : decode prog_11_method_53_code 23 = .ok (.aload_n 0, 1) := by decide +kernel
theorem d_SqlReaderModel_readItems_24 : decode prog_11_method_53_code 24 = .ok (.bipush 7, 2) := by decide +kernel
theorem d_SqlReaderModel_readItems_26 : decode prog_11_method_53_code 26 = .ok (.iconst 0, 1) := by decide +kernel
theorem d_SqlReaderModel_readItems_27 : decode prog_11_method_53_code 27 = .ok (.iconst 0, 1) := by decide +kernel
theorem d_SqlReaderModel_readItems_28 : decode prog_11_method_53_code 28 = .ok (.invokevirtual 283, 3) := by decide +kernel
theorem d_SqlReaderModel_readItems_31 : decode prog_11_method_53_code 31 = .ok (.aload_n 0, 1) := by decide +kernel
theorem d_SqlReaderModel_readItems_32 : decode prog_11_method_53_code 32 = .ok (.getfield 158, 3) := by decide +kernel
theorem d_SqlReaderModel_readItems_35 : decode prog_11_method_53_code 35 = .ok (.ifCond .ne 7, 3) := by decide +kernel
theorem d_SqlReaderModel_readItems_38 : decode prog_11_method_53_code 38 = .ok (.iconst 1, 1) := by decide +kernel
theorem d_SqlReaderModel_readItems_39 : decode prog_11_method_53_code 39 = .ok (.goto 4, 3) := by decide +kernel
theorem d_SqlReaderModel_readItems_42 : decode prog_11_method_53_code 42 = .ok (.iconst 0, 1) := by decide +kernel
theorem d_SqlReaderModel_readItems_43 : decode prog_11_method_53_code 43 = .ok (.istore_n 1, 1) := by decide +kernel
theorem d_SqlReaderModel_readItems_44 : decode prog_11_method_53_code 44 = .ok (.iload_n 1, 1) := by decide +kernel
theorem d_SqlReaderModel_readItems_45 : decode prog_11_method_53_code 45 = .ok (.ifCond .eq 67, 3) := by decide +kernel
theorem d_SqlReaderModel_readItems_48 : decode prog_11_method_53_code 48 = .ok (.aload_n 0, 1) := by decide +kernel
theorem d_SqlReaderModel_readItems_49 : decode prog_11_method_53_code 49 = .ok (.getfield 226, 3) := by decide +kernel
theorem d_SqlReaderModel_readItems_52 : decode prog_11_method_53_code 52 = .ok (.ifCond .ne 60, 3) := by decide +kernel
theorem d_SqlReaderModel_readItems_55 : decode prog_11_method_53_code 55 = .ok (.aload_n 0, 1) := by decide +kernel
theorem d_SqlReaderModel_readItems_56 : decode prog_11_method_53_code 56 = .ok (.invokevirtual 442, 3) := by decide +kernel
theorem d_SqlReaderModel_readItems_59 : decode prog_11_method_53_code 59 = .ok (.istore_n 2, 1) := by decide +kernel
theorem d_SqlReaderModel_readItems_60 : decode prog_11_method_53_code 60 = .ok (.aload_n 0, 1) := by decide +kernel
theorem d_SqlReaderModel_readItems_61 : decode prog_11_method_53_code 61 = .ok (.getfield 174, 3) := by decide +kernel
theorem d_SqlReaderModel_readItems_64 : decode prog_11_method_53_code 64 = .ok (.sipush 200, 3) := by decide +kernel
theorem d_SqlReaderModel_readItems_67 : decode prog_11_method_53_code 67 = .ok (.if_icmp .ge 24, 3) := by decide +kernel
theorem d_SqlReaderModel_readItems_70 : decode prog_11_method_53_code 70 = .ok (.aload_n 0, 1) := by decide +kernel
theorem d_SqlReaderModel_readItems_71 : decode prog_11_method_53_code 71 = .ok (.getfield 78, 3) := by decide +kernel
theorem d_SqlReaderModel_readItems_74 : decode prog_11_method_53_code 74 = .ok (.aload_n 0, 1) := by decide +kernel
theorem d_SqlReaderModel_readItems_75 : decode prog_11_method_53_code 75 = .ok (.getfield 174, 3) := by decide +kernel
theorem d_SqlReaderModel_readItems_78 : decode prog_11_method_53_code 78 = .ok (.iload_n 2, 1) := by decide +kernel
theorem d_SqlReaderModel_readItems_79 : decode prog_11_method_53_code 79 = .ok (.iastore, 1) := by decide +kernel
theorem d_SqlReaderModel_readItems_80 : decode prog_11_method_53_code 80 = .ok (.aload_n 0, 1) := by decide +kernel
theorem d_SqlReaderModel_readItems_81 : decode prog_11_method_53_code 81 = .ok (.bipush 6, 2) := by decide +kernel
theorem d_SqlReaderModel_readItems_83 : decode prog_11_method_53_code 83 = .ok (.iload_n 2, 1) := by decide +kernel
theorem d_SqlReaderModel_readItems_84 : decode prog_11_method_53_code 84 = .ok (.aload_n 0, 1) := by decide +kernel
theorem d_SqlReaderModel_readItems_85 : decode prog_11_method_53_code 85 = .ok (.getfield 174, 3) := by decide +kernel
theorem d_SqlReaderModel_readItems_88 : decode prog_11_method_53_code 88 = .ok (.invokevirtual 283, 3) := by decide +kernel
theorem d_SqlReaderModel_readItems_91 : decode prog_11_method_53_code 91 = .ok (.aload_n 0, 1) := by decide +kernel
theorem d_SqlReaderModel_readItems_92 : decode prog_11_method_53_code 92 = .ok (.dup, 1) := by decide +kernel
theorem d_SqlReaderModel_readItems_93 : decode prog_11_method_53_code 93 = .ok (.getfield 174, 3) := by decide +kernel
theorem d_SqlReaderModel_readItems_96 : decode prog_11_method_53_code 96 = .ok (.iconst 1, 1) := by decide +kernel
theorem d_SqlReaderModel_readItems_97 : decode prog_11_method_53_code 97 = .ok (.iadd, 1) := by decide +kernel
theorem d_SqlReaderModel_readItems_98 : decode prog_11_method_53_code 98 = .ok (.putfield 174, 3) := by decide +kernel
theorem d_SqlReaderModel_readItems_101 : decode prog_11_method_53_code 101 = .ok (.aload_n 0, 1) := by decide +kernel
theorem d_SqlReaderModel_readItems_102 : decode prog_11_method_53_code 102 = .ok (.ldc_w 387, 3) := by decide +kernel
theorem d_SqlReaderModel_readItems_105 : decode prog_11_method_53_code 105 = .ok (.invokevirtual 421, 3) := by decide +kernel
theorem d_SqlReaderModel_readItems_108 : decode prog_11_method_53_code 108 = .ok (.istore_n 1, 1) := by decide +kernel
theorem d_SqlReaderModel_readItems_109 : decode prog_11_method_53_code 109 = .ok (.goto (-65), 3) := by decide +kernel
theorem d_SqlReaderModel_readItems_112 : decode prog_11_method_53_code 112 = .ok (.aload_n 0, 1) := by decide +kernel
theorem d_SqlReaderModel_readItems_113 : decode prog_11_method_53_code 113 = .ok (.iconst 0, 1) := by decide +kernel
theorem d_SqlReaderModel_readItems_114 : decode prog_11_method_53_code 114 = .ok (.putfield 400, 3) := by decide +kernel
theorem d_SqlReaderModel_readItems_117 : decode prog_11_method_53_code 117 = .ok (.return_, 1) := by decide +kernel
theorem d_SqlReaderModel_readMode_0 : decode prog_11_method_58_code 0 = .ok (.aload_n 0, 1) := by decide +kernel
theorem d_SqlReaderModel_readMode_1 : decode prog_11_method_58_code 1 = .ok (.ldc_w 511, 3) := by decide +kernel
theorem d_SqlReaderModel_readMode_4 : decode prog_11_method_58_code 4 = .ok (.invokevirtual 421, 3) := by decide +kernel
theorem d_SqlReaderModel_readMode_7 : decode prog_11_method_58_code 7 = .ok (.ifCond .eq 26, 3) := by decide +kernel
theorem d_SqlReaderModel_readMode_10 : decode prog_11_method_58_code 10 = .ok (.aload_n 0, 1) := by decide +kernel
theorem d_SqlReaderModel_readMode_11 : decode prog_11_method_58_code 11 = .ok (.aload_n 0, 1) := by decide +kernel
theorem d_SqlReaderModel_readMode_12 : decode prog_11_method_58_code 12 = .ok (.ldc_w 509, 3) := by decide +kernel
theorem d_SqlReaderModel_readMode_15 : decode prog_11_method_58_code 15 = .ok (.invokevirtual 421, 3) := by decide +kernel
theorem d_SqlReaderModel_readMode_18 : decode prog_11_method_58_code 18 = .ok (.ifCond .eq 7, 3) := by decide +kernel
theorem d_SqlReaderModel_readMode_21 : decode prog_11_method_58_code 21 = .ok (.iconst 1, 1) := by decide +kernel
theorem d_SqlReaderModel_readMode_22 : decode prog_11_method_58_code 22 = .ok (.goto 5, 3) := by decide +kernel
theorem d_SqlReaderModel_readMode_25 : decode prog_11_method_58_code 25 = .ok (.bipush 8, 2) := by decide +kernel
theorem d_SqlReaderModel_readMode_27 : decode prog_11_method_58_code 27 = .ok (.putfield 152, 3) := by decide +kernel
theorem d_SqlReaderModel_readMode_30 : decode prog_11_method_58_code 30 = .ok (.goto 88, 3) := by decide +kernel
theorem d_SqlReaderModel_readMode_33 : decode prog_11_method_58_code 33 = .ok (.aload_n 0, 1) := by decide +kernel
theorem d_SqlReaderModel_readMode_34 : decode prog_11_method_58_code 34 = .ok (.ldc_w 513, 3) := by decide +kernel
theorem d_SqlReaderModel_readMode_37 : decode prog_11_method_58_code 37 = .ok (.invokevirtual 421, 3) := by decide +kernel
theorem d_SqlReaderModel_readMode_40 : decode prog_11_method_58_code 40 = .ok (.ifCond .eq 25, 3) := by decide +kernel
theorem d_SqlReaderModel_readMode_43 : decode prog_11_method_58_code 43 = .ok (.aload_n 0, 1) := by decide +kernel
theorem d_SqlReaderModel_readMode_44 : decode prog_11_method_58_code 44 = .ok (.aload_n 0, 1) := by decide +kernel
theorem d_SqlReaderModel_readMode_45 : decode prog_11_method_58_code 45 = .ok (.ldc_w 509, 3) := by decide +kernel
theorem d_SqlReaderModel_readMode_48 : decode prog_11_method_58_code 48 = .ok (.invokevirtual 421, 3) := by decide +kernel
theorem d_SqlReaderModel_readMode_51 : decode prog_11_method_58_code 51 = .ok (.ifCond .eq 7, 3) := by decide +kernel
theorem d_SqlReaderModel_readMode_54 : decode prog_11_method_58_code 54 = .ok (.iconst 2, 1) := by decide +kernel
theorem d_SqlReaderModel_readMode_55 : decode prog_11_method_58_code 55 = .ok (.goto 4, 3) := by decide +kernel
theorem d_SqlReaderModel_readMode_58 : decode prog_11_method_58_code 58 = .ok (.iconst 3, 1) := by decide +kernel
theorem d_SqlReaderModel_readMode_59 : decode prog_11_method_58_code 59 = .ok (.putfield 152, 3) := by decide +kernel
theorem d_SqlReaderModel_readMode_62 : decode prog_11_method_58_code 62 = .ok (.goto 56, 3) := by decide +kernel
theorem d_SqlReaderModel_readMode_65 : decode prog_11_method_58_code 65 = .ok (.aload_n 0, 1) := by decide +kernel
theorem d_SqlReaderModel_readMode_66 : decode prog_11_method_58_code 66 = .ok (.ldc_w 509, 3) := by decide +kernel
theorem d_SqlReaderModel_readMode_69 : decode prog_11_method_58_code 69 = .ok (.invokevirtual 421, 3) := by decide +kernel
theorem d_SqlReaderModel_readMode_72 : decode prog_11_method_58_code 72 = .ok (.ifCond .eq 40, 3) := by decide +kernel
theorem d_SqlReaderModel_readMode_75 : decode prog_11_method_58_code 75 = .ok (.aload_n 0, 1) := by decide +kernel
theorem d_SqlReaderModel_readMode_76 : decode prog_11_method_58_code 76 = .ok (.aload_n 0, 1) := by decide +kernel
theorem d_SqlReaderModel_readMode_77 : decode prog_11_method_58_code 77 = .ok (.ldc_w 507, 3) := by decide +kernel
theorem d_SqlReaderModel_readMode_80 : decode prog_11_method_58_code 80 = .ok (.invokevirtual 421, 3) := by decide +kernel
theorem d_SqlReaderModel_readMode_83 : decode prog_11_method_58_code 83 = .ok (.ifCond .eq 7, 3) := by decide +kernel
theorem d_SqlReaderModel_readMode_86 : decode prog_11_method_58_code 86 = .ok (.iconst 4, 1) := by decide +kernel
theorem d_SqlReaderModel_readMode_87 : decode prog_11_method_58_code 87 = .ok (.goto 19, 3) := by decide +kernel
theorem d_SqlReaderModel_readMode_90 : decode prog_11_method_58_code 90 = .ok (.aload_n 0, 1) := by decide +kernel
theorem d_SqlReaderModel_readMode_91 : decode prog_11_method_58_code 91 = .ok (.ldc_w 513, 3) := by decide +kernel
theorem d_SqlReaderModel_readMode_94 : decode prog_11_method_58_code 94 = .ok (.invokevirtual 421, 3) := by decide +kernel
theorem d_SqlReaderModel_readMode_97 : decode prog_11_method_58_code 97 = .ok (.ifCond .eq 8, 3) := by decide +kernel
theorem d_SqlReaderModel_readMode_100 : decode prog_11_method_58_code 100 = .ok (.bipush 6, 2) := by decide +kernel
theorem d_SqlReaderModel_readMode_102 : decode prog_11_method_58_code 102 = .ok (.goto 4, 3) := by decide +kernel
theorem d_SqlReaderModel_readMode_105 : decode prog_11_method_58_code 105 = .ok (.iconst 5, 1) := by decide +kernel
theorem d_SqlReaderModel_readMode_106 : decode prog_11_method_58_code 106 = .ok (.putfield 152, 3) := by decide +kernel
theorem d_SqlReaderModel_readMode_109 : decode prog_11_method_58_code 109 = .ok (.goto 9, 3) := by decide +kernel
theorem d_SqlReaderModel_readMode_112 : decode prog_11_method_58_code 112 = .ok (.aload_n 0, 1) := by decide +kernel
theorem d_SqlReaderModel_readMode_113 : decode prog_11_method_58_code 113 = .ok (.bipush 7, 2) := by decide +kernel
theorem d_SqlReaderModel_readMode_115 : decode prog_11_method_58_code 115 = .ok (.putfield 152, 3) := by decide +kernel
theorem d_SqlReaderModel_readMode_118 : decode prog_11_method_58_code 118 = .ok (.aload_n 0, 1) := by decide +kernel
theorem d_SqlReaderModel_readMode_119 : decode prog_11_method_58_code 119 = .ok (.getfield 152, 3) := by decide +kernel
theorem d_SqlReaderModel_readMode_122 : decode prog_11_method_58_code 122 = .ok (.iconst 1, 1) := by decide +kernel
theorem d_SqlReaderModel_readMode_123 : decode prog_11_method_58_code 123 = .ok (.if_icmp .eq 26, 3) := by decide +kernel
theorem d_SqlReaderModel_readMode_126 : decode prog_11_method_58_code 126 = .ok (.aload_n 0, 1) := by decide +kernel
theorem d_SqlReaderModel_readMode_127 : decode prog_11_method_58_code 127 = .ok (.getfield 152, 3) := by decide +kernel
theorem d_SqlReaderModel_readMode_130 : decode prog_11_method_58_code 130 = .ok (.iconst 2, 1) := by decide +kernel
theorem d_SqlReaderModel_readMode_131 : decode prog_11_method_58_code 131 = .ok (.if_icmp .eq 18, 3) := by decide +kernel
theorem d_SqlReaderModel_readMode_134 : decode prog_11_method_58_code 134 = .ok (.aload_n 0, 1) := by decide +kernel
theorem d_SqlReaderModel_readMode_135 : decode prog_11_method_58_code 135 = .ok (.getfield 152, 3) := by decide +kernel
theorem d_SqlReaderModel_readMode_138 : decode prog_11_method_58_code 138 = .ok (.iconst 5, 1) := by decide +kernel
theorem d_SqlReaderModel_readMode_139 : decode prog_11_method_58_code 139 = .ok (.if_icmp .eq 10, 3) := by decide +kernel
theorem d_SqlReaderModel_readMode_142 : decode prog_11_method_58_code 142 = .ok (.aload_n 0, 1) := by decide +kernel
theorem d_SqlReaderModel_readMode_143 : decode prog_11_method_58_code 143 = .ok (.ldc_w 515, 3) := by decide +kernel
theorem d_SqlReaderModel_readMode_146 : decode prog_11_method_58_code 146 = .ok (.invokevirtual 450, 3) := by decide +kernel
theorem d_SqlReaderModel_readMode_149 : decode prog_11_method_58_code 149 = .ok (.return_, 1) := by decide +kernel
theorem d_SqlReaderModel_readNamed_0 : decode prog_11_method_61_code 0 = .ok (.aload_n 0, 1) := by decide +kernel
theorem d_SqlReaderModel_readNamed_1 : decode prog_11_method_61_code 1 = .ok (.iload_n 1, 1) := by decide +kernel
theorem d_SqlReaderModel_readNamed_2 : decode prog_11_method_61_code 2 = .ok (.putfield 140, 3) := by decide +kernel
theorem d_SqlReaderModel_readNamed_5 : decode prog_11_method_61_code 5 = .ok (.aload_n 0, 1) := by decide +kernel
theorem d_SqlReaderModel_readNamed_6 : decode prog_11_method_61_code 6 = .ok (.aload_n 0, 1) := by decide +kernel
theorem d_SqlReaderModel_readNamed_7 : decode prog_11_method_61_code 7 = .ok (.invokevirtual 447, 3) := by decide +kernel
theorem d_SqlReaderModel_readNamed_10 : decode prog_11_method_61_code 10 = .ok (.putfield 155, 3) := by decide +kernel
theorem d_SqlReaderModel_readNamed_13 : decode prog_11_method_61_code 13 = .ok (.return_, 1) := by decide +kernel
theorem d_SqlReaderModel_readOrders_0 : decode prog_11_method_56_code 0 = .ok (.aload_n 0, 1) := by decide +kernel
theorem d_SqlReaderModel_readOrders_1 : decode prog_11_method_56_code 1 = .ok (.ldc_w 486, 3) := by decide +kernel
theorem d_SqlReaderModel_readOrders_4 : decode prog_11_method_56_code 4 = .ok (.invokevirtual 450, 3) := by decide +kernel
theorem d_SqlReaderModel_readOrders_7 : decode prog_11_method_56_code 7 = .ok (.iconst 1, 1) := by decide +kernel
theorem d_SqlReaderModel_readOrders_8 : decode prog_11_method_56_code 8 = .ok (.istore_n 1, 1) := by decide +kernel
theorem d_SqlReaderModel_readOrders_9 : decode prog_11_method_56_code 9 = .ok (.iload_n 1, 1) := by decide +kernel
theorem d_SqlReaderModel_readOrders_10 : decode prog_11_method_56_code 10 = .ok (.ifCond .eq 60, 3) := by decide +kernel
theorem d_SqlReaderModel_readOrders_13 : decode prog_11_method_56_code 13 = .ok (.aload_n 0, 1) := by decide +kernel
theorem d_SqlReaderModel_readOrders_14 : decode prog_11_method_56_code 14 = .ok (.getfield 226, 3) := by decide +kernel
theorem d_SqlReaderModel_readOrders_17 : decode prog_11_method_56_code 17 = .ok (.ifCond .ne 53, 3) := by decide +kernel
theorem d_SqlReaderModel_readOrders_20 : decode prog_11_method_56_code 20 = .ok (.aload_n 0, 1) := by decide +kernel
theorem d_SqlReaderModel_readOrders_21 : decode prog_11_method_56_code 21 = .ok (.getfield 84, 3) := by decide +kernel
theorem d_SqlReaderModel_readOrders_24 : decode prog_11_method_56_code 24 = .ok (.aload_n 0, 1) := by decide +kernel
theorem d_SqlReaderModel_readOrders_25 : decode prog_11_method_56_code 25 = .ok (.getfield 180, 3) := by decide +kernel
theorem d_SqlReaderModel_readOrders_28 : decode prog_11_method_56_code 28 = .ok (.aload_n 0, 1) := by decide +kernel
theorem d_SqlReaderModel_readOrders_29 : decode prog_11_method_56_code 29 = .ok (.invokevirtual 488, 3) := by decide +kernel
theorem d_SqlReaderModel_readOrders_32 : decode prog_11_method_56_code 32 = .ok (.lastore, 1) := by decide +kernel
theorem d_SqlReaderModel_readOrders_33 : decode prog_11_method_56_code 33 = .ok (.aload_n 0, 1) := by decide +kernel
theorem d_SqlReaderModel_readOrders_34 : decode prog_11_method_56_code 34 = .ok (.getfield 87, 3) := by decide +kernel
theorem d_SqlReaderModel_readOrders_37 : decode prog_11_method_56_code 37 = .ok (.aload_n 0, 1) := by decide +kernel
theorem d_SqlReaderModel_readOrders_38 : decode prog_11_method_56_code 38 = .ok (.getfield 180, 3) := by decide +kernel
theorem d_SqlReaderModel_readOrders_41 : decode prog_11_method_56_code 41 = .ok (.aload_n 0, 1) := by decide +kernel
theorem d_SqlReaderModel_readOrders_42 : decode prog_11_method_56_code 42 = .ok (.ldc_w 492, 3) := by decide +kernel
theorem d_SqlReaderModel_readOrders_45 : decode prog_11_method_56_code 45 = .ok (.invokevirtual 421, 3) := by decide +kernel
theorem d_SqlReaderModel_readOrders_48 : decode prog_11_method_56_code 48 = .ok (.bastore, 1) := by decide +kernel
theorem d_SqlReaderModel_readOrders_49 : decode prog_11_method_56_code 49 = .ok (.aload_n 0, 1) := by decide +kernel
theorem d_SqlReaderModel_readOrders_50 : decode prog_11_method_56_code 50 = .ok (.dup, 1) := by decide +kernel
theorem d_SqlReaderModel_readOrders_51 : decode prog_11_method_56_code 51 = .ok (.getfield 180, 3) := by decide +kernel
theorem d_SqlReaderModel_readOrders_54 : decode prog_11_method_56_code 54 = .ok (.iconst 1, 1) := by decide +kernel
theorem d_SqlReaderModel_readOrders_55 : decode prog_11_method_56_code 55 = .ok (.iadd, 1) := by decide +kernel
theorem d_SqlReaderModel_readOrders_56 : decode prog_11_method_56_code 56 = .ok (.putfield 180, 3) := by decide +kernel
theorem d_SqlReaderModel_readOrders_59 : decode prog_11_method_56_code 59 = .ok (.aload_n 0, 1) := by decide +kernel
theorem d_SqlReaderModel_readOrders_60 : decode prog_11_method_56_code 60 = .ok (.ldc_w 387, 3) := by decide +kernel
theorem d_SqlReaderModel_readOrders_63 : decode prog_11_method_56_code 63 = .ok (.invokevirtual 421, 3) := by decide +kernel
theorem d_SqlReaderModel_readOrders_66 : decode prog_11_method_56_code 66 = .ok (.istore_n 1, 1) := by decide +kernel
theorem d_SqlReaderModel_readOrders_67 : decode prog_11_method_56_code 67 = .ok (.goto (-58), 3) := by decide +kernel
theorem d_SqlReaderModel_readOrders_70 : decode prog_11_method_56_code 70 = .ok (.return_, 1) := by decide +kernel
theorem d_SqlReaderModel_readOther_0 : decode prog_11_method_63_code 0 = .ok (.aload_n 0, 1) := by decide +kernel
theorem d_SqlReaderModel_readOther_1 : decode prog_11_method_63_code 1 = .ok (.ldc_w 539, 3) := by decide +kernel
theorem d_SqlReaderModel_readOther_4 : decode prog_11_method_63_code 4 = .ok (.invokevirtual 421, 3) := by decide +kernel
theorem d_SqlReaderModel_readOther_7 : decode prog_11_method_63_code 7 = .ok (.ifCond .eq 10, 3) := by decide +kernel
theorem d_SqlReaderModel_readOther_10 : decode prog_11_method_63_code 10 = .ok (.aload_n 0, 1) := by decide +kernel
theorem d_SqlReaderModel_readOther_11 : decode prog_11_method_63_code 11 = .ok (.invokevirtual 541, 3) := by decide +kernel
theorem d_SqlReaderModel_readOther_14 : decode prog_11_method_63_code 14 = .ok (.goto 300, 3) := by decide +kernel
theorem d_SqlReaderModel_readOther_17 : decode prog_11_method_63_code 17 = .ok (.aload_n 0, 1) := by decide +kernel
theorem d_SqlReaderModel_readOther_18 : decode prog_11_method_63_code 18 = .ok (.ldc_w 544, 3) := by decide +kernel
theorem d_SqlReaderModel_readOther_21 : decode prog_11_method_63_code 21 = .ok (.invokevirtual 421, 3) := by decide +kernel
theorem d_SqlReaderModel_readOther_24 : decode prog_11_method_63_code 24 = .ok (.ifCond .eq 26, 3) := by decide +kernel
theorem d_SqlReaderModel_readOther_27 : decode prog_11_method_63_code 27 = .ok (.aload_n 0, 1) := by decide +kernel
theorem d_SqlReaderModel_readOther_28 : decode prog_11_method_63_code 28 = .ok (.iconst 3, 1) := by decide +kernel
theorem d_SqlReaderModel_readOther_29 : decode prog_11_method_63_code 29 = .ok (.putfield 140, 3) := by decide +kernel
theorem d_SqlReaderModel_readOther_32 : decode prog_11_method_63_code 32 = .ok (.aload_n 0, 1) := by decide +kernel
theorem d_SqlReaderModel_readOther_33 : decode prog_11_method_63_code 33 = .ok (.ldc_w 445, 3) := by decide +kernel
theorem d_SqlReaderModel_readOther_36 : decode prog_11_method_63_code 36 = .ok (.invokevirtual 450, 3) := by decide +kernel
theorem d_SqlReaderModel_readOther_39 : decode prog_11_method_63_code 39 = .ok (.aload_n 0, 1) := by decide +kernel
theorem d_SqlReaderModel_readOther_40 : decode prog_11_method_63_code 40 = .ok (.aload_n 0, 1) := by decide +kernel
theorem d_SqlReaderModel_readOther_41 : decode prog_11_method_63_code 41 = .ok (.invokevirtual 447, 3) := by decide +kernel
theorem d_SqlReaderModel_readOther_44 : decode prog_11_method_63_code 44 = .ok (.putfield 149, 3) := by decide +kernel
theorem d_SqlReaderModel_readOther_47 : decode prog_11_method_63_code 47 = .ok (.goto 267, 3) := by decide +kernel
theorem d_SqlReaderModel_readOther_50 : decode prog_11_method_63_code 50 = .ok (.aload_n 0, 1) := by decide +kernel
theorem d_SqlReaderModel_readOther_51 : decode prog_11_method_63_code 51 = .ok (.ldc_w 546, 3) := by decide +kernel
theorem d_SqlReaderModel_readOther_54 : decode prog_11_method_63_code 54 = .ok (.invokevirtual 421, 3) := by decide +kernel
theorem d_SqlReaderModel_readOther_57 : decode prog_11_method_63_code 57 = .ok (.ifCond .eq 10, 3) := by decide +kernel
theorem d_SqlReaderModel_readOther_60 : decode prog_11_method_63_code 60 = .ok (.aload_n 0, 1) := by decide +kernel
theorem d_SqlReaderModel_readOther_61 : decode prog_11_method_63_code 61 = .ok (.invokevirtual 548, 3) := by decide +kernel
theorem d_SqlReaderModel_readOther_64 : decode prog_11_method_63_code 64 = .ok (.goto 250, 3) := by decide +kernel
theorem d_SqlReaderModel_readOther_67 : decode prog_11_method_63_code 67 = .ok (.aload_n 0, 1) := by decide +kernel
theorem d_SqlReaderModel_readOther_68 : decode prog_11_method_63_code 68 = .ok (.ldc_w 551, 3) := by decide +kernel
theorem d_SqlReaderModel_readOther_71 : decode prog_11_method_63_code 71 = .ok (.invokevirtual 421, 3) := by decide +kernel
theorem d_SqlReaderModel_readOther_74 : decode prog_11_method_63_code 74 = .ok (.ifCond .eq 12, 3) := by decide +kernel
theorem d_SqlReaderModel_readOther_77 : decode prog_11_method_63_code 77 = .ok (.aload_n 0, 1) := by decide +kernel
theorem d_SqlReaderModel_readOther_78 : decode prog_11_method_63_code 78 = .ok (.bipush 10, 2) := by decide +kernel
theorem d_SqlReaderModel_readOther_80 : decode prog_11_method_63_code 80 = .ok (.putfield 140, 3) := by decide +kernel
theorem d_SqlReaderModel_readOther_83 : decode prog_11_method_63_code 83 = .ok (.goto 231, 3) := by decide +kernel
theorem d_SqlReaderModel_readOther_86 : decode prog_11_method_63_code 86 = .ok (.aload_n 0, 1) := by decide +kernel
theorem d_SqlReaderModel_readOther_87 : decode prog_11_method_63_code 87 = .ok (.ldc_w 553, 3) := by decide +kernel
theorem d_SqlReaderModel_readOther_90 : decode prog_11_method_63_code 90 = .ok (.invokevirtual 421, 3) := by decide +kernel
theorem d_SqlReaderModel_readOther_93 : decode prog_11_method_63_code 93 = .ok (.ifCond .eq 28, 3) := by decide +kernel
theorem d_SqlReaderModel_readOther_96 : decode prog_11_method_63_code 96 = .ok (.aload_n 0, 1) := by decide +kernel
theorem d_SqlReaderModel_readOther_97 : decode prog_11_method_63_code 97 = .ok (.bipush 11, 2) := by decide +kernel
theorem d_SqlReaderModel_readOther_99 : decode prog_11_method_63_code 99 = .ok (.putfield 140, 3) := by decide +kernel
theorem d_SqlReaderModel_readOther_102 : decode prog_11_method_63_code 102 = .ok (.aload_n 0, 1) := by decide +kernel
theorem d_SqlReaderModel_readOther_103 : decode prog_11_method_63_code 103 = .ok (.ldc_w 555, 3) := by decide +kernel
theorem d_SqlReaderModel_readOther_106 : decode prog_11_method_63_code 106 = .ok (.invokevirtual 421, 3) := by decide +kernel
theorem d_SqlReaderModel_readOther_109 : decode prog_11_method_63_code 109 = .ok (.ifCond .eq 205, 3) := by decide +kernel
theorem d_SqlReaderModel_readOther_112 : decode prog_11_method_63_code 112 = .ok (.aload_n 0, 1) := by decide +kernel
theorem d_SqlReaderModel_readOther_113 : decode prog_11_method_63_code 113 = .ok (.bipush 13, 2) := by decide +kernel
theorem d_SqlReaderModel_readOther_115 : decode prog_11_method_63_code 115 = .ok (.invokevirtual 535, 3) := by decide +kernel
theorem d_SqlReaderModel_readOther_118 : decode prog_11_method_63_code 118 = .ok (.goto 196, 3) := by decide +kernel
theorem d_SqlReaderModel_readOther_121 : decode prog_11_method_63_code 121 = .ok (.aload_n 0, 1) := by decide +kernel
theorem d_SqlReaderModel_readOther_122 : decode prog_11_method_63_code 122 = .ok (.ldc_w 557, 3) := by decide +kernel
theorem d_SqlReaderModel_readOther_125 : decode prog_11_method_63_code 125 = .ok (.invokevirtual 421, 3) := by decide +kernel
theorem d_SqlReaderModel_readOther_128 : decode prog_11_method_63_code 128 = .ok (.ifCond .eq 12, 3) := by decide +kernel
theorem d_SqlReaderModel_readOther_131 : decode prog_11_method_63_code 131 = .ok (.aload_n 0, 1) := by decide +kernel
theorem d_SqlReaderModel_readOther_132 : decode prog_11_method_63_code 132 = .ok (.bipush 12, 2) := by decide +kernel
theorem d_SqlReaderModel_readOther_134 : decode prog_11_method_63_code 134 = .ok (.invokevirtual 535, 3) := by decide +kernel
theorem d_SqlReaderModel_readOther_137 : decode prog_11_method_63_code 137 = .ok (.goto 177, 3) := by decide +kernel
theorem d_SqlReaderModel_readOther_140 : decode prog_11_method_63_code 140 = .ok (.aload_n 0, 1) := by decide +kernel
theorem d_SqlReaderModel_readOther_141 : decode prog_11_method_63_code 141 = .ok (.ldc_w 559, 3) := by decide +kernel
theorem d_SqlReaderModel_readOther_144 : decode prog_11_method_63_code 144 = .ok (.invokevirtual 421, 3) := by decide +kernel
theorem d_SqlReaderModel_readOther_147 : decode prog_11_method_63_code 147 = .ok (.ifCond .eq 12, 3) := by decide +kernel
theorem d_SqlReaderModel_readOther_150 : decode prog_11_method_63_code 150 = .ok (.aload_n 0, 1) := by decide +kernel
theorem d_SqlReaderModel_readOther_151 : decode prog_11_method_63_code 151 = .ok (.bipush 14, 2) := by decide +kernel
theorem d_SqlReaderModel_readOther_153 : decode prog_11_method_63_code 153 = .ok (.invokevirtual 535, 3) := by decide +kernel
theorem d_SqlReaderModel_readOther_156 : decode prog_11_method_63_code 156 = .ok (.goto 158, 3) := by decide +kernel
theorem d_SqlReaderModel_readOther_159 : decode prog_11_method_63_code 159 = .ok (.aload_n 0, 1) := by decide +kernel
theorem d_SqlReaderModel_readOther_160 : decode prog_11_method_63_code 160 = .ok (.ldc_w 561, 3) := by decide +kernel
theorem d_SqlReaderModel_readOther_163 : decode prog_11_method_63_code 163 = .ok (.invokevirtual 421, 3) := by decide +kernel
theorem d_SqlReaderModel_readOther_166 : decode prog_11_method_63_code 166 = .ok (.ifCond .eq 24, 3) := by decide +kernel
theorem d_SqlReaderModel_readOther_169 : decode prog_11_method_63_code 169 = .ok (.aload_n 0, 1) := by decide +kernel
theorem d_SqlReaderModel_readOther_170 : decode prog_11_method_63_code 170 = .ok (.bipush 15, 2) := by decide +kernel
theorem d_SqlReaderModel_readOther_172 : decode prog_11_method_63_code 172 = .ok (.putfield 140, 3) := by decide +kernel
theorem d_SqlReaderModel_readOther_175 : decode prog_11_method_63_code 175 = .ok (.aload_n 0, 1) := by decide +kernel
theorem d_SqlReaderModel_readOther_176 : decode prog_11_method_63_code 176 = .ok (.aload_n 0, 1) := by decide +kernel
theorem d_SqlReaderModel_readOther_177 : decode prog_11_method_63_code 177 = .ok (.invokevirtual 447, 3) := by decide +kernel
theorem d_SqlReaderModel_readOther_180 : decode prog_11_method_63_code 180 = .ok (.putfield 149, 3) := by decide +kernel
theorem d_SqlReaderModel_readOther_183 : decode prog_11_method_63_code 183 = .ok (.aload_n 0, 1) := by decide +kernel
theorem d_SqlReaderModel_readOther_184 : decode prog_11_method_63_code 184 = .ok (.invokevirtual 563, 3) := by decide +kernel
theorem d_SqlReaderModel_readOther_187 : decode prog_11_method_63_code 187 = .ok (.goto 127, 3) := by decide +kernel
theorem d_SqlReaderModel_readOther_190 : decode prog_11_method_63_code 190 = .ok (.aload_n 0, 1) := by decide +kernel
theorem d_SqlReaderModel_readOther_191 : decode prog_11_method_63_code 191 = .ok (.ldc_w 566, 3) := by decide +kernel
theorem d_SqlReaderModel_readOther_194 : decode prog_11_method_63_code 194 = .ok (.invokevirtual 421, 3) := by decide +kernel
theorem d_SqlReaderModel_readOther_197 : decode prog_11_method_63_code 197 = .ok (.ifCond .eq 60, 3) := by decide +kernel
theorem d_SqlReaderModel_readOther_200 : decode prog_11_method_63_code 200 = .ok (.aload_n 0, 1) := by decide +kernel
theorem d_SqlReaderModel_readOther_201 : decode prog_11_method_63_code 201 = .ok (.invokevirtual 447, 3) := by decide +kernel
theorem d_SqlReaderModel_readOther_204 : decode prog_11_method_63_code 204 = .ok (.istore_n 1, 1) := by decide +kernel
theorem d_SqlReaderModel_readOther_205 : decode prog_11_method_63_code 205 = .ok (.aload_n 0, 1) := by decide +kernel
theorem d_SqlReaderModel_readOther_206 : decode prog_11_method_63_code 206 = .ok (.ldc_w 568, 3) := by decide +kernel
theorem d_SqlReaderModel_readOther_209 : decode prog_11_method_63_code 209 = .ok (.invokevirtual 450, 3) := by decide +kernel
theorem d_SqlReaderModel_readOther_212 : decode prog_11_method_63_code 212 = .ok (.aload_n 0, 1) := by decide +kernel
theorem d_SqlReaderModel_readOther_213 : decode prog_11_method_63_code 213 = .ok (.aload_n 0, 1) := by decide +kernel
theorem d_SqlReaderModel_readOther_214 : decode prog_11_method_63_code 214 = .ok (.invokevirtual 570, 3) := by decide +kernel
theorem d_SqlReaderModel_readOther_217 : decode prog_11_method_63_code 217 = .ok (.ifCond .eq 10, 3) := by decide +kernel
theorem d_SqlReaderModel_readOther_220 : decode prog_11_method_63_code 220 = .ok (.aload_n 0, 1) := by decide +kernel
theorem d_SqlReaderModel_readOther_221 : decode prog_11_method_63_code 221 = .ok (.getfield 226, 3) := by decide +kernel
theorem d_SqlReaderModel_readOther_224 : decode prog_11_method_63_code 224 = .ok (.ifCond .eq 7, 3) := by decide +kernel
theorem d_SqlReaderModel_readOther_227 : decode prog_11_method_63_code 227 = .ok (.iconst 1, 1) := by decide +kernel
theorem d_SqlReaderModel_readOther_228 : decode prog_11_method_63_code 228 = .ok (.goto 4, 3) := by decide +kernel
theorem d_SqlReaderModel_readOther_231 : decode prog_11_method_63_code 231 = .ok (.iconst 0, 1) := by decide +kernel
theorem d_SqlReaderModel_readOther_232 : decode prog_11_method_63_code 232 = .ok (.putfield 226, 3) := by decide +kernel
theorem d_SqlReaderModel_readOther_235 : decode prog_11_method_63_code 235 = .ok (.aload_n 0, 1) := by decide +kernel
theorem d_SqlReaderModel_readOther_236 : decode prog_11_method_63_code 236 = .ok (.aload_n 0, 1) := by decide +kernel
theorem d_SqlReaderModel_readOther_237 : decode prog_11_method_63_code 237 = .ok (.getfield 140, 3) := by decide +kernel
theorem d_SqlReaderModel_readOther_240 : decode prog_11_method_63_code 240 = .ok (.putfield 143, 3) := by decide +kernel
theorem d_SqlReaderModel_readOther_243 : decode prog_11_method_63_code 243 = .ok (.aload_n 0, 1) := by decide +kernel
theorem d_SqlReaderModel_readOther_244 : decode prog_11_method_63_code 244 = .ok (.bipush 16, 2) := by decide +kernel
theorem d_SqlReaderModel_readOther_246 : decode prog_11_method_63_code 246 = .ok (.putfield 140, 3) := by decide +kernel
theorem d_SqlReaderModel_readOther_249 : decode prog_11_method_63_code 249 = .ok (.aload_n 0, 1) := by decide +kernel
theorem d_SqlReaderModel_readOther_250 : decode prog_11_method_63_code 250 = .ok (.iload_n 1, 1) := by decide +kernel
theorem d_SqlReaderModel_readOther_251 : decode prog_11_method_63_code 251 = .ok (.putfield 155, 3) := by decide +kernel
theorem d_SqlReaderModel_readOther_254 : decode prog_11_method_63_code 254 = .ok (.goto 60, 3) := by decide +kernel
theorem d_SqlReaderModel_readOther_257 : decode prog_11_method_63_code 257 = .ok (.aload_n 0, 1) := by decide +kernel
theorem d_SqlReaderModel_readOther_258 : decode prog_11_method_63_code 258 = .ok (.ldc_w 573, 3) := by decide +kernel
theorem d_SqlReaderModel_readOther_261 : decode prog_11_method_63_code 261 = .ok (.invokevirtual 421, 3) := by decide +kernel
theorem d_SqlReaderModel_readOther_264 : decode prog_11_method_63_code 264 = .ok (.ifCond .eq 10, 3) := by decide +kernel
theorem d_SqlReaderModel_readOther_267 : decode prog_11_method_63_code 267 = .ok (.aload_n 0, 1) := by decide +kernel
theorem d_SqlReaderModel_readOther_268 : decode prog_11_method_63_code 268 = .ok (.invokevirtual 575, 3) := by decide +kernel
theorem d_SqlReaderModel_readOther_271 : decode prog_11_method_63_code 271 = .ok (.goto 43, 3) := by decide +kernel
theorem d_SqlReaderModel_readOther_274 : decode prog_11_method_63_code 274 = .ok (.aload_n 0, 1) := by decide +kernel
theorem d_SqlReaderModel_readOther_275 : decode prog_11_method_63_code 275 = .ok (.ldc_w 578, 3) := by decide +kernel
theorem d_SqlReaderModel_readOther_278 : decode prog_11_method_63_code 278 = .ok (.invokevirtual 421, 3) := by decide +kernel
theorem d_SqlReaderModel_readOther_281 : decode prog_11_method_63_code 281 = .ok (.ifCond .eq 20, 3) := by decide +kernel
theorem d_SqlReaderModel_readOther_284 : decode prog_11_method_63_code 284 = .ok (.aload_n 0, 1) := by decide +kernel
theorem d_SqlReaderModel_readOther_285 : decode prog_11_method_63_code 285 = .ok (.bipush 18, 2) := by decide +kernel
theorem d_SqlReaderModel_readOther_287 : decode prog_11_method_63_code 287 = .ok (.putfield 140, 3) := by decide +kernel
theorem d_SqlReaderModel_readOther_290 : decode prog_11_method_63_code 290 = .ok (.aload_n 0, 1) := by decide +kernel
theorem d_SqlReaderModel_readOther_291 : decode prog_11_method_63_code 291 = .ok (.aload_n 0, 1) := by decide +kernel
theorem d_SqlReaderModel_readOther_292 : decode prog_11_method_63_code 292 = .ok (.invokevirtual 447, 3) := by decide +kernel
theorem d_SqlReaderModel_readOther_295 : decode prog_11_method_63_code 295 = .ok (.putfield 149, 3) := by decide +kernel
theorem d_SqlReaderModel_readOther_298 : decode prog_11_method_63_code 298 = .ok (.goto 16, 3) := by decide +kernel
theorem d_SqlReaderModel_readOther_301 : decode prog_11_method_63_code 301 = .ok (.aload_n 0, 1) := by decide +kernel
theorem d_SqlReaderModel_readOther_302 : decode prog_11_method_63_code 302 = .ok (.ldc_w 580, 3) := by decide +kernel
theorem d_SqlReaderModel_readOther_305 : decode prog_11_method_63_code 305 = .ok (.invokevirtual 450, 3) := by decide +kernel
theorem d_SqlReaderModel_readOther_308 : decode prog_11_method_63_code 308 = .ok (.aload_n 0, 1) := by decide +kernel
theorem d_SqlReaderModel_readOther_309 : decode prog_11_method_63_code 309 = .ok (.bipush 19, 2) := by decide +kernel
theorem d_SqlReaderModel_readOther_311 : decode prog_11_method_63_code 311 = .ok (.putfield 140, 3) := by decide +kernel
theorem d_SqlReaderModel_readOther_314 : decode prog_11_method_63_code 314 = .ok (.return_, 1) := by decide +kernel
theorem d_SqlReaderModel_readQuery_0 : decode prog_11_method_57_code 0 = .ok (.aload_n 0, 1) := by decide +kernel
theorem d_SqlReaderModel_readQuery_1 : decode prog_11_method_57_code 1 = .ok (.aload_n 0, 1) := by decide +kernel
theorem d_SqlReaderModel_readQuery_2 : decode prog_11_method_57_code 2 = .ok (.ldc_w 494, 3) := by decide +kernel
theorem d_SqlReaderModel_readQuery_5 : decode prog_11_method_57_code 5 = .ok (.invokevirtual 421, 3) := by decide +kernel
theorem d_SqlReaderModel_readQuery_8 : decode prog_11_method_57_code 8 = .ok (.putfield 162, 3) := by decide +kernel
theorem d_SqlReaderModel_readQuery_11 : decode prog_11_method_57_code 11 = .ok (.aload_n 0, 1) := by decide +kernel
theorem d_SqlReaderModel_readQuery_12 : decode prog_11_method_57_code 12 = .ok (.invokevirtual 496, 3) := by decide +kernel
theorem d_SqlReaderModel_readQuery_15 : decode prog_11_method_57_code 15 = .ok (.aload_n 0, 1) := by decide +kernel
theorem d_SqlReaderModel_readQuery_16 : decode prog_11_method_57_code 16 = .ok (.ldc_w 427, 3) := by decide +kernel
theorem d_SqlReaderModel_readQuery_19 : decode prog_11_method_57_code 19 = .ok (.invokevirtual 450, 3) := by decide +kernel
theorem d_SqlReaderModel_readQuery_22 : decode prog_11_method_57_code 22 = .ok (.iconst 1, 1) := by decide +kernel
theorem d_SqlReaderModel_readQuery_23 : decode prog_11_method_57_code 23 = .ok (.istore_n 1, 1) := by decide +kernel
theorem d_SqlReaderModel_readQuery_24 : decode prog_11_method_57_code 24 = .ok (.iload_n 1, 1) := by decide +kernel
theorem d_SqlReaderModel_readQuery_25 : decode prog_11_method_57_code 25 = .ok (.ifCond .eq 74, 3) := by decide +kernel
theorem d_SqlReaderModel_readQuery_28 : decode prog_11_method_57_code 28 = .ok (.aload_n 0, 1) := by decide +kernel
theorem d_SqlReaderModel_readQuery_29 : decode prog_11_method_57_code 29 = .ok (.getfield 226, 3) := by decide +kernel
theorem d_SqlReaderModel_readQuery_32 : decode prog_11_method_57_code 32 = .ok (.ifCond .ne 67, 3) := by decide +kernel
theorem d_SqlReaderModel_readQuery_35 : decode prog_11_method_57_code 35 = .ok (.aload_n 0, 1) := by decide +kernel
theorem d_SqlReaderModel_readQuery_36 : decode prog_11_method_57_code 36 = .ok (.invokevirtual 447, 3) := by decide +kernel
theorem d_SqlReaderModel_readQuery_39 : decode prog_11_method_57_code 39 = .ok (.istore_n 2, 1) := by decide +kernel
theorem d_SqlReaderModel_readQuery_40 : decode prog_11_method_57_code 40 = .ok (.aload_n 0, 1) := by decide +kernel
theorem d_SqlReaderModel_readQuery_41 : decode prog_11_method_57_code 41 = .ok (.aload_n 0, 1) := by decide +kernel
theorem d_SqlReaderModel_readQuery_42 : decode prog_11_method_57_code 42 = .ok (.getfield 419, 3) := by decide +kernel
theorem d_SqlReaderModel_readQuery_45 : decode prog_11_method_57_code 45 = .ok (.iconst 2, 1) := by decide +kernel
theorem d_SqlReaderModel_readQuery_46 : decode prog_11_method_57_code 46 = .ok (.invokevirtual 403, 3) := by decide +kernel
theorem d_SqlReaderModel_readQuery_49 : decode prog_11_method_57_code 49 = .ok (.istore_n 3, 1) := by decide +kernel
theorem d_SqlReaderModel_readQuery_50 : decode prog_11_method_57_code 50 = .ok (.aload_n 0, 1) := by decide +kernel
theorem d_SqlReaderModel_readQuery_51 : decode prog_11_method_57_code 51 = .ok (.iload_n 2, 1) := by decide +kernel
theorem d_SqlReaderModel_readQuery_52 : decode prog_11_method_57_code 52 = .ok (.iload_n 3, 1) := by decide +kernel
theorem d_SqlReaderModel_readQuery_53 : decode prog_11_method_57_code 53 = .ok (.ifCond .eq 10, 3) := by decide +kernel
theorem d_SqlReaderModel_readQuery_56 : decode prog_11_method_57_code 56 = .ok (.aload_n 0, 1) := by decide +kernel
theorem d_SqlReaderModel_readQuery_57 : decode prog_11_method_57_code 57 = .ok (.getfield 419, 3) := by decide +kernel
theorem d_SqlReaderModel_readQuery_60 : decode prog_11_method_57_code 60 = .ok (.goto 4, 3) := by decide +kernel
theorem d_SqlReaderModel_readQuery_63 : decode prog_11_method_57_code 63 = .ok (.iload_n 2, 1) := by decide +kernel
theorem d_SqlReaderModel_readQuery_64 : decode prog_11_method_57_code 64 = .ok (.invokevirtual 478, 3) := by decide +kernel
theorem d_SqlReaderModel_readQuery_67 : decode prog_11_method_57_code 67 = .ok (.aload_n 0, 1) := by decide +kernel
theorem d_SqlReaderModel_readQuery_68 : decode prog_11_method_57_code 68 = .ok (.iload_n 3, 1) := by decide +kernel
theorem d_SqlReaderModel_readQuery_69 : decode prog_11_method_57_code 69 = .ok (.ifCond .eq 12, 3) := by decide +kernel
theorem d_SqlReaderModel_readQuery_72 : decode prog_11_method_57_code 72 = .ok (.aload_n 0, 1) := by decide +kernel
theorem d_SqlReaderModel_readQuery_73 : decode prog_11_method_57_code 73 = .ok (.getfield 419, 3) := by decide +kernel
theorem d_SqlReaderModel_readQuery_76 : decode prog_11_method_57_code 76 = .ok (.iconst 1, 1) := by decide +kernel
theorem d_SqlReaderModel_readQuery_77 : decode prog_11_method_57_code 77 = .ok (.iadd, 1) := by decide +kernel
theorem d_SqlReaderModel_readQuery_78 : decode prog_11_method_57_code 78 = .ok (.goto 7, 3) := by decide +kernel
theorem d_SqlReaderModel_readQuery_81 : decode prog_11_method_57_code 81 = .ok (.aload_n 0, 1) := by decide +kernel
theorem d_SqlReaderModel_readQuery_82 : decode prog_11_method_57_code 82 = .ok (.getfield 419, 3) := by decide +kernel
theorem d_SqlReaderModel_readQuery_85 : decode prog_11_method_57_code 85 = .ok (.putfield 419, 3) := by decide +kernel
theorem d_SqlReaderModel_readQuery_88 : decode prog_11_method_57_code 88 = .ok (.aload_n 0, 1) := by decide +kernel
theorem d_SqlReaderModel_readQuery_89 : decode prog_11_method_57_code 89 = .ok (.ldc_w 387, 3) := by decide +kernel
theorem d_SqlReaderModel_readQuery_92 : decode prog_11_method_57_code 92 = .ok (.invokevirtual 421, 3) := by decide +kernel
theorem d_SqlReaderModel_readQuery_95 : decode prog_11_method_57_code 95 = .ok (.istore_n 1, 1) := by decide +kernel
theorem d_SqlReaderModel_readQuery_96 : decode prog_11_method_57_code 96 = .ok (.goto (-72), 3) := by decide +kernel
theorem d_SqlReaderModel_readQuery_99 : decode prog_11_method_57_code 99 = .ok (.aload_n 0, 1) := by decide +kernel
theorem d_SqlReaderModel_readQuery_100 : decode prog_11_method_57_code 100 = .ok (.invokevirtual 483, 3) := by decide +kernel
theorem d_SqlReaderModel_readQuery_103 : decode prog_11_method_57_code 103 = .ok (.aload_n 0, 1) := by decide +kernel
theorem d_SqlReaderModel_readQuery_104 : decode prog_11_method_57_code 104 = .ok (.ldc_w 431, 3) := by decide +kernel
theorem d_SqlReaderModel_readQuery_107 : decode prog_11_method_57_code 107 = .ok (.invokevirtual 421, 3) := by decide +kernel
theorem d_SqlReaderModel_readQuery_110 : decode prog_11_method_57_code 110 = .ok (.ifCond .eq 7, 3) := by decide +kernel
theorem d_SqlReaderModel_readQuery_113 : decode prog_11_method_57_code 113 = .ok (.aload_n 0, 1) := by decide +kernel
theorem d_SqlReaderModel_readQuery_114 : decode prog_11_method_57_code 114 = .ok (.invokevirtual 499, 3) := by decide +kernel
theorem d_SqlReaderModel_readQuery_117 : decode prog_11_method_57_code 117 = .ok (.aload_n 0, 1) := by decide +kernel
theorem d_SqlReaderModel_readQuery_118 : decode prog_11_method_57_code 118 = .ok (.ldc_w 433, 3) := by decide +kernel
theorem d_SqlReaderModel_readQuery_121 : decode prog_11_method_57_code 121 = .ok (.invokevirtual 421, 3) := by decide +kernel
theorem d_SqlReaderModel_readQuery_124 : decode prog_11_method_57_code 124 = .ok (.ifCond .eq 7, 3) := by decide +kernel
theorem d_SqlReaderModel_readQuery_127 : decode prog_11_method_57_code 127 = .ok (.aload_n 0, 1) := by decide +kernel
theorem d_SqlReaderModel_readQuery_128 : decode prog_11_method_57_code 128 = .ok (.invokevirtual 502, 3) := by decide +kernel
theorem d_SqlReaderModel_readQuery_131 : decode prog_11_method_57_code 131 = .ok (.aload_n 0, 1) := by decide +kernel
theorem d_SqlReaderModel_readQuery_132 : decode prog_11_method_57_code 132 = .ok (.ldc_w 435, 3) := by decide +kernel
theorem d_SqlReaderModel_readQuery_135 : decode prog_11_method_57_code 135 = .ok (.invokevirtual 421, 3) := by decide +kernel
theorem d_SqlReaderModel_readQuery_138 : decode prog_11_method_57_code 138 = .ok (.ifCond .eq 36, 3) := by decide +kernel
theorem d_SqlReaderModel_readQuery_141 : decode prog_11_method_57_code 141 = .ok (.aload_n 0, 1) := by decide +kernel
theorem d_SqlReaderModel_readQuery_142 : decode prog_11_method_57_code 142 = .ok (.aload_n 0, 1) := by decide +kernel
theorem d_SqlReaderModel_readQuery_143 : decode prog_11_method_57_code 143 = .ok (.invokevirtual 488, 3) := by decide +kernel
theorem d_SqlReaderModel_readQuery_146 : decode prog_11_method_57_code 146 = .ok (.putfield 167, 3) := by decide +kernel
theorem d_SqlReaderModel_readQuery_149 : decode prog_11_method_57_code 149 = .ok (.aload_n 0, 1) := by decide +kernel
theorem d_SqlReaderModel_readQuery_150 : decode prog_11_method_57_code 150 = .ok (.aload_n 0, 1) := by decide +kernel
theorem d_SqlReaderModel_readQuery_151 : decode prog_11_method_57_code 151 = .ok (.getfield 167, 3) := by decide +kernel
theorem d_SqlReaderModel_readQuery_154 : decode prog_11_method_57_code 154 = .ok (.ldc2_w 505, 3) := by decide +kernel
theorem d_SqlReaderModel_readQuery_157 : decode prog_11_method_57_code 157 = .ok (.lcmp, 1) := by decide +kernel
theorem d_SqlReaderModel_readQuery_158 : decode prog_11_method_57_code 158 = .ok (.ifCond .le 9, 3) := by decide +kernel
theorem d_SqlReaderModel_readQuery_161 : decode prog_11_method_57_code 161 = .ok (.ldc2_w 505, 3) := by decide +kernel
theorem d_SqlReaderModel_readQuery_164 : decode prog_11_method_57_code 164 = .ok (.goto 7, 3) := by decide +kernel
theorem d_SqlReaderModel_readQuery_167 : decode prog_11_method_57_code 167 = .ok (.aload_n 0, 1) := by decide +kernel
theorem d_SqlReaderModel_readQuery_168 : decode prog_11_method_57_code 168 = .ok (.getfield 167, 3) := by decide +kernel
theorem d_SqlReaderModel_readQuery_171 : decode prog_11_method_57_code 171 = .ok (.putfield 167, 3) := by decide +kernel
theorem d_SqlReaderModel_readQuery_174 : decode prog_11_method_57_code 174 = .ok (.aload_n 0, 1) := by decide +kernel
theorem d_SqlReaderModel_readQuery_175 : decode prog_11_method_57_code 175 = .ok (.ldc_w 437, 3) := by decide +kernel
theorem d_SqlReaderModel_readQuery_178 : decode prog_11_method_57_code 178 = .ok (.invokevirtual 421, 3) := by decide +kernel
theorem d_SqlReaderModel_readQuery_181 : decode prog_11_method_57_code 181 = .ok (.ifCond .eq 59, 3) := by decide +kernel
theorem d_SqlReaderModel_readQuery_184 : decode prog_11_method_57_code 184 = .ok (.aload_n 0, 1) := by decide +kernel
theorem d_SqlReaderModel_readQuery_185 : decode prog_11_method_57_code 185 = .ok (.aload_n 0, 1) := by decide +kernel
theorem d_SqlReaderModel_readQuery_186 : decode prog_11_method_57_code 186 = .ok (.ldc_w 507, 3) := by decide +kernel
theorem d_SqlReaderModel_readQuery_189 : decode prog_11_method_57_code 189 = .ok (.invokevirtual 421, 3) := by decide +kernel
theorem d_SqlReaderModel_readQuery_192 : decode prog_11_method_57_code 192 = .ok (.ifCond .eq 7, 3) := by decide +kernel
theorem d_SqlReaderModel_readQuery_195 : decode prog_11_method_57_code 195 = .ok (.iconst 2, 1) := by decide +kernel
theorem d_SqlReaderModel_readQuery_196 : decode prog_11_method_57_code 196 = .ok (.goto 18, 3) := by decide +kernel
theorem d_SqlReaderModel_readQuery_199 : decode prog_11_method_57_code 199 = .ok (.aload_n 0, 1) := by decide +kernel
theorem d_SqlReaderModel_readQuery_200 : decode prog_11_method_57_code 200 = .ok (.ldc_w 509, 3) := by decide +kernel
theorem d_SqlReaderModel_readQuery_203 : decode prog_11_method_57_code 203 = .ok (.invokevirtual 421, 3) := by decide +kernel
theorem d_SqlReaderModel_readQuery_206 : decode prog_11_method_57_code 206 = .ok (.ifCond .eq 7, 3) := by decide +kernel
theorem d_SqlReaderModel_readQuery_209 : decode prog_11_method_57_code 209 = .ok (.iconst 1, 1) := by decide +kernel
theorem d_SqlReaderModel_readQuery_210 : decode prog_11_method_57_code 210 = .ok (.goto 4, 3) := by decide +kernel
theorem d_SqlReaderModel_readQuery_213 : decode prog_11_method_57_code 213 = .ok (.iconst 0, 1) := by decide +kernel
theorem d_SqlReaderModel_readQuery_214 : decode prog_11_method_57_code 214 = .ok (.putfield 152, 3) := by decide +kernel
theorem d_SqlReaderModel_readQuery_217 : decode prog_11_method_57_code 217 = .ok (.aload_n 0, 1) := by decide +kernel
theorem d_SqlReaderModel_readQuery_218 : decode prog_11_method_57_code 218 = .ok (.aload_n 0, 1) := by decide +kernel
theorem d_SqlReaderModel_readQuery_219 : decode prog_11_method_57_code 219 = .ok (.getfield 226, 3) := by decide +kernel
theorem d_SqlReaderModel_readQuery_222 : decode prog_11_method_57_code 222 = .ok (.ifCond .ne 10, 3) := by decide +kernel
theorem d_SqlReaderModel_readQuery_225 : decode prog_11_method_57_code 225 = .ok (.aload_n 0, 1) := by decide +kernel
theorem d_SqlReaderModel_readQuery_226 : decode prog_11_method_57_code 226 = .ok (.getfield 152, 3) := by decide +kernel
theorem d_SqlReaderModel_readQuery_229 : decode prog_11_method_57_code 229 = .ok (.ifCond .ne 7, 3) := by decide +kernel
theorem d_SqlReaderModel_readQuery_232 : decode prog_11_method_57_code 232 = .ok (.iconst 1, 1) := by decide +kernel
theorem d_SqlReaderModel_readQuery_233 : decode prog_11_method_57_code 233 = .ok (.goto 4, 3) := by decide +kernel
theorem d_SqlReaderModel_readQuery_236 : decode prog_11_method_57_code 236 = .ok (.iconst 0, 1) := by decide +kernel
theorem d_SqlReaderModel_readQuery_237 : decode prog_11_method_57_code 237 = .ok (.putfield 226, 3) := by decide +kernel
theorem d_SqlReaderModel_readQuery_240 : decode prog_11_method_57_code 240 = .ok (.return_, 1) := by decide +kernel
theorem d_SqlReaderModel_readRows_0 : decode prog_11_method_49_code 0 = .ok (.iconst 1, 1) := by decide +kernel
theorem d_SqlReaderModel_readRows_1 : decode prog_11_method_49_code 1 = .ok (.istore_n 1, 1) := by decide +kernel
theorem d_SqlReaderModel_readRows_2 : decode prog_11_method_49_code 2 = .ok (.iload_n 1, 1) := by decide +kernel
theorem d_SqlReaderModel_readRows_3 : decode prog_11_method_49_code 3 = .ok (.ifCond .eq 120, 3) := by decide +kernel
theorem d_SqlReaderModel_readRows_6 : decode prog_11_method_49_code 6 = .ok (.aload_n 0, 1) := by decide +kernel
theorem d_SqlReaderModel_readRows_7 : decode prog_11_method_49_code 7 = .ok (.getfield 226, 3) := by decide +kernel
theorem d_SqlReaderModel_readRows_10 : decode prog_11_method_49_code 10 = .ok (.ifCond .ne 113, 3) := by decide +kernel
theorem d_SqlReaderModel_readRows_13 : decode prog_11_method_49_code 13 = .ok (.aload_n 0, 1) := by decide +kernel
theorem d_SqlReaderModel_readRows_14 : decode prog_11_method_49_code 14 = .ok (.ldc_w 291, 3) := by decide +kernel
theorem d_SqlReaderModel_readRows_17 : decode prog_11_method_49_code 17 = .ok (.invokevirtual 450, 3) := by decide +kernel
theorem d_SqlReaderModel_readRows_20 : decode prog_11_method_49_code 20 = .ok (.iconst 0, 1) := by decide +kernel
theorem d_SqlReaderModel_readRows_21 : decode prog_11_method_49_code 21 = .ok (.istore_n 2, 1) := by decide +kernel
theorem d_SqlReaderModel_readRows_22 : decode prog_11_method_49_code 22 = .ok (.iconst 1, 1) := by decide +kernel
theorem d_SqlReaderModel_readRows_23 : decode prog_11_method_49_code 23 = .ok (.istore_n 3, 1) := by decide +kernel
theorem d_SqlReaderModel_readRows_24 : decode prog_11_method_49_code 24 = .ok (.iload_n 3, 1) := by decide +kernel
theorem d_SqlReaderModel_readRows_25 : decode prog_11_method_49_code 25 = .ok (.ifCond .eq 62, 3) := by decide +kernel
theorem d_SqlReaderModel_readRows_28 : decode prog_11_method_49_code 28 = .ok (.aload_n 0, 1) := by decide +kernel
theorem d_SqlReaderModel_readRows_29 : decode prog_11_method_49_code 29 = .ok (.getfield 226, 3) := by decide +kernel
theorem d_SqlReaderModel_readRows_32 : decode prog_11_method_49_code 32 = .ok (.ifCond .ne 55, 3) := by decide +kernel
theorem d_SqlReaderModel_readRows_35 : decode prog_11_method_49_code 35 = .ok (.aload_n 0, 1) := by decide +kernel
theorem d_SqlReaderModel_readRows_36 : decode prog_11_method_49_code 36 = .ok (.getfield 109, 3) := by decide +kernel
theorem d_SqlReaderModel_readRows_39 : decode prog_11_method_49_code 39 = .ok (.aload_n 0, 1) := by decide +kernel
theorem d_SqlReaderModel_readRows_40 : decode prog_11_method_49_code 40 = .ok (.getfield 195, 3) := by decide +kernel
theorem d_SqlReaderModel_readRows_43 : decode prog_11_method_49_code 43 = .ok (.aload_n 0, 1) := by decide +kernel
theorem d_SqlReaderModel_readRows_44 : decode prog_11_method_49_code 44 = .ok (.invokevirtual 442, 3) := by decide +kernel
theorem d_SqlReaderModel_readRows_47 : decode prog_11_method_49_code 47 = .ok (.iastore, 1) := by decide +kernel
theorem d_SqlReaderModel_readRows_48 : decode prog_11_method_49_code 48 = .ok (.aload_n 0, 1) := by decide +kernel
theorem d_SqlReaderModel_readRows_49 : decode prog_11_method_49_code 49 = .ok (.iconst 2, 1) := by decide +kernel
theorem d_SqlReaderModel_readRows_50 : decode prog_11_method_49_code 50 = .ok (.aload_n 0, 1) := by decide +kernel
theorem d_SqlReaderModel_readRows_51 : decode prog_11_method_49_code 51 = .ok (.getfield 109, 3) := by decide +kernel
theorem d_SqlReaderModel_readRows_54 : decode prog_11_method_49_code 54 = .ok (.aload_n 0, 1) := by decide +kernel
theorem d_SqlReaderModel_readRows_55 : decode prog_11_method_49_code 55 = .ok (.getfield 195, 3) := by decide +kernel
theorem d_SqlReaderModel_readRows_58 : decode prog_11_method_49_code 58 = .ok (.iaload, 1) := by decide +kernel
theorem d_SqlReaderModel_readRows_59 : decode prog_11_method_49_code 59 = .ok (.iload_n 2, 1) := by decide +kernel
theorem d_SqlReaderModel_readRows_60 : decode prog_11_method_49_code 60 = .ok (.invokevirtual 283, 3) := by decide +kernel
theorem d_SqlReaderModel_readRows_63 : decode prog_11_method_49_code 63 = .ok (.aload_n 0, 1) := by decide +kernel
theorem d_SqlReaderModel_readRows_64 : decode prog_11_method_49_code 64 = .ok (.dup, 1) := by decide +kernel
theorem d_SqlReaderModel_readRows_65 : decode prog_11_method_49_code 65 = .ok (.getfield 195, 3) := by decide +kernel
theorem d_SqlReaderModel_readRows_68 : decode prog_11_method_49_code 68 = .ok (.iconst 1, 1) := by decide +kernel
theorem d_SqlReaderModel_readRows_69 : decode prog_11_method_49_code 69 = .ok (.iadd, 1) := by decide +kernel
theorem d_SqlReaderModel_readRows_70 : decode prog_11_method_49_code 70 = .ok (.putfield 195, 3) := by decide +kernel
theorem d_SqlReaderModel_readRows_73 : decode prog_11_method_49_code 73 = .ok (.iinc 2 1, 3) := by decide +kernel
theorem d_SqlReaderModel_readRows_76 : decode prog_11_method_49_code 76 = .ok (.aload_n 0, 1) := by decide +kernel
theorem d_SqlReaderModel_readRows_77 : decode prog_11_method_49_code 77 = .ok (.ldc_w 387, 3) := by decide +kernel
theorem d_SqlReaderModel_readRows_80 : decode prog_11_method_49_code 80 = .ok (.invokevirtual 421, 3) := by decide +kernel
theorem d_SqlReaderModel_readRows_83 : decode prog_11_method_49_code 83 = .ok (.istore_n 3, 1) := by decide +kernel
theorem d_SqlReaderModel_readRows_84 : decode prog_11_method_49_code 84 = .ok (.goto (-60), 3) := by decide +kernel
theorem d_SqlReaderModel_readRows_87 : decode prog_11_method_49_code 87 = .ok (.aload_n 0, 1) := by decide +kernel
theorem d_SqlReaderModel_readRows_88 : decode prog_11_method_49_code 88 = .ok (.ldc_w 297, 3) := by decide +kernel
theorem d_SqlReaderModel_readRows_91 : decode prog_11_method_49_code 91 = .ok (.invokevirtual 450, 3) := by decide +kernel
theorem d_SqlReaderModel_readRows_94 : decode prog_11_method_49_code 94 = .ok (.aload_n 0, 1) := by decide +kernel
theorem d_SqlReaderModel_readRows_95 : decode prog_11_method_49_code 95 = .ok (.bipush 10, 2) := by decide +kernel
theorem d_SqlReaderModel_readRows_97 : decode prog_11_method_49_code 97 = .ok (.iload_n 2, 1) := by decide +kernel
theorem d_SqlReaderModel_readRows_98 : decode prog_11_method_49_code 98 = .ok (.iconst 0, 1) := by decide +kernel
theorem d_SqlReaderModel_readRows_99 : decode prog_11_method_49_code 99 = .ok (.invokevirtual 283, 3) := by decide +kernel
theorem d_SqlReaderModel_readRows_102 : decode prog_11_method_49_code 102 = .ok (.aload_n 0, 1) := by decide +kernel
theorem d_SqlReaderModel_readRows_103 : decode prog_11_method_49_code 103 = .ok (.dup, 1) := by decide +kernel
theorem d_SqlReaderModel_readRows_104 : decode prog_11_method_49_code 104 = .ok (.getfield 189, 3) := by decide +kernel
theorem d_SqlReaderModel_readRows_107 : decode prog_11_method_49_code 107 = .ok (.iconst 1, 1) := by decide +kernel
theorem d_SqlReaderModel_readRows_108 : decode prog_11_method_49_code 108 = .ok (.iadd, 1) := by decide +kernel
theorem d_SqlReaderModel_readRows_109 : decode prog_11_method_49_code 109 = .ok (.putfield 189, 3) := by decide +kernel
theorem d_SqlReaderModel_readRows_112 : decode prog_11_method_49_code 112 = .ok (.aload_n 0, 1) := by decide +kernel
theorem d_SqlReaderModel_readRows_113 : decode prog_11_method_49_code 113 = .ok (.ldc_w 387, 3) := by decide +kernel
theorem d_SqlReaderModel_readRows_116 : decode prog_11_method_49_code 116 = .ok (.invokevirtual 421, 3) := by decide +kernel
theorem d_SqlReaderModel_readRows_119 : decode prog_11_method_49_code 119 = .ok (.istore_n 1, 1) := by decide +kernel
theorem d_SqlReaderModel_readRows_120 : decode prog_11_method_49_code 120 = .ok (.goto (-118), 3) := by decide +kernel
theorem d_SqlReaderModel_readRows_123 : decode prog_11_method_49_code 123 = .ok (.return_, 1) := by decide +kernel
theorem d_SqlReaderModel_readUpdate_0 : decode prog_11_method_52_code 0 = .ok (.aload_n 0, 1) := by decide +kernel
theorem d_SqlReaderModel_readUpdate_1 : decode prog_11_method_52_code 1 = .ok (.bipush 6, 2) := by decide +kernel
theorem d_SqlReaderModel_readUpdate_3 : decode prog_11_method_52_code 3 = .ok (.putfield 140, 3) := by decide +kernel
theorem d_SqlReaderModel_readUpdate_6 : decode prog_11_method_52_code 6 = .ok (.aload_n 0, 1) := by decide +kernel
theorem d_SqlReaderModel_readUpdate_7 : decode prog_11_method_52_code 7 = .ok (.aload_n 0, 1) := by decide +kernel
theorem d_SqlReaderModel_readUpdate_8 : decode prog_11_method_52_code 8 = .ok (.invokevirtual 447, 3) := by decide +kernel
theorem d_SqlReaderModel_readUpdate_11 : decode prog_11_method_52_code 11 = .ok (.putfield 149, 3) := by decide +kernel
theorem d_SqlReaderModel_readUpdate_14 : decode prog_11_method_52_code 14 = .ok (.aload_n 0, 1) := by decide +kernel
theorem d_SqlReaderModel_readUpdate_15 : decode prog_11_method_52_code 15 = .ok (.aload_n 0, 1) := by decide +kernel
theorem d_SqlReaderModel_readUpdate_16 : decode prog_11_method_52_code 16 = .ok (.getfield 149, 3) := by decide +kernel
theorem d_SqlReaderModel_readUpdate_19 : decode prog_11_method_52_code 19 = .ok (.aload_n 0, 1) := by decide +kernel
theorem d_SqlReaderModel_readUpdate_20 : decode prog_11_method_52_code 20 = .ok (.getfield 149, 3) := by decide +kernel
theorem d_SqlReaderModel_readUpdate_23 : decode prog_11_method_52_code 23 = .ok (.invokevirtual 478, 3) := by decide +kernel
theorem d_SqlReaderModel_readUpdate_26 : decode prog_11_method_52_code 26 = .ok (.aload_n 0, 1) := by decide +kernel
theorem d_SqlReaderModel_readUpdate_27 : decode prog_11_method_52_code 27 = .ok (.ldc_w 481, 3) := by decide +kernel
theorem d_SqlReaderModel_readUpdate_30 : decode prog_11_method_52_code 30 = .ok (.invokevirtual 450, 3) := by decide +kernel
theorem d_SqlReaderModel_readUpdate_33 : decode prog_11_method_52_code 33 = .ok (.iconst 1, 1) := by decide +kernel
theorem d_SqlReaderModel_readUpdate_34 : decode prog_11_method_52_code 34 = .ok (.istore_n 1, 1) := by decide +kernel
theorem d_SqlReaderModel_readUpdate_35 : decode prog_11_method_52_code 35 = .ok (.iload_n 1, 1) := by decide +kernel
theorem d_SqlReaderModel_readUpdate_36 : decode prog_11_method_52_code 36 = .ok (.ifCond .eq 84, 3) := by decide +kernel
theorem d_SqlReaderModel_readUpdate_39 : decode prog_11_method_52_code 39 = .ok (.aload_n 0, 1) := by decide +kernel
theorem d_SqlReaderModel_readUpdate_40 : decode prog_11_method_52_code 40 = .ok (.getfield 226, 3) := by decide +kernel
theorem d_SqlReaderModel_readUpdate_43 : decode prog_11_method_52_code 43 = .ok (.ifCond .ne 77, 3) := by decide +kernel
theorem d_SqlReaderModel_readUpdate_46 : decode prog_11_method_52_code 46 = .ok (.aload_n 0, 1) := by decide +kernel
theorem d_SqlReaderModel_readUpdate_47 : decode prog_11_method_52_code 47 = .ok (.getfield 100, 3) := by decide +kernel
theorem d_SqlReaderModel_readUpdate_50 : decode prog_11_method_52_code 50 = .ok (.aload_n 0, 1) := by decide +kernel
theorem d_SqlReaderModel_readUpdate_51 : decode prog_11_method_52_code 51 = .ok (.getfield 186, 3) := by decide +kernel
theorem d_SqlReaderModel_readUpdate_54 : decode prog_11_method_52_code 54 = .ok (.aload_n 0, 1) := by decide +kernel
theorem d_SqlReaderModel_readUpdate_55 : decode prog_11_method_52_code 55 = .ok (.invokevirtual 447, 3) := by decide +kernel
theorem d_SqlReaderModel_readUpdate_58 : decode prog_11_method_52_code 58 = .ok (.iastore, 1) := by decide +kernel
theorem d_SqlReaderModel_readUpdate_59 : decode prog_11_method_52_code 59 = .ok (.aload_n 0, 1) := by decide +kernel
theorem d_SqlReaderModel_readUpdate_60 : decode prog_11_method_52_code 60 = .ok (.iconst 4, 1) := by decide +kernel
theorem d_SqlReaderModel_readUpdate_61 : decode prog_11_method_52_code 61 = .ok (.aload_n 0, 1) := by decide +kernel
theorem d_SqlReaderModel_readUpdate_62 : decode prog_11_method_52_code 62 = .ok (.getfield 186, 3) := by decide +kernel
theorem d_SqlReaderModel_readUpdate_65 : decode prog_11_method_52_code 65 = .ok (.iconst 0, 1) := by decide +kernel
theorem d_SqlReaderModel_readUpdate_66 : decode prog_11_method_52_code 66 = .ok (.invokevirtual 283, 3) := by decide +kernel
theorem d_SqlReaderModel_readUpdate_69 : decode prog_11_method_52_code 69 = .ok (.aload_n 0, 1) := by decide +kernel
theorem d_SqlReaderModel_readUpdate_70 : decode prog_11_method_52_code 70 = .ok (.ldc_w 352, 3) := by decide +kernel
theorem d_SqlReaderModel_readUpdate_73 : decode prog_11_method_52_code 73 = .ok (.invokevirtual 450, 3) := by decide +kernel
theorem d_SqlReaderModel_readUpdate_76 : decode prog_11_method_52_code 76 = .ok (.aload_n 0, 1) := by decide +kernel
theorem d_SqlReaderModel_readUpdate_77 : decode prog_11_method_52_code 77 = .ok (.getfield 106, 3) := by decide +kernel
theorem d_SqlReaderModel_readUpdate_80 : decode prog_11_method_52_code 80 = .ok (.aload_n 0, 1) := by decide +kernel
theorem d_SqlReaderModel_readUpdate_81 : decode prog_11_method_52_code 81 = .ok (.getfield 186, 3) := by decide +kernel
theorem d_SqlReaderModel_readUpdate_84 : decode prog_11_method_52_code 84 = .ok (.aload_n 0, 1) := by decide +kernel
theorem d_SqlReaderModel_readUpdate_85 : decode prog_11_method_52_code 85 = .ok (.invokevirtual 442, 3) := by decide +kernel
theorem d_SqlReaderModel_readUpdate_88 : decode prog_11_method_52_code 88 = .ok (.iastore, 1) := by decide +kernel
theorem d_SqlReaderModel_readUpdate_89 : decode prog_11_method_52_code 89 = .ok (.aload_n 0, 1) := by decide +kernel
theorem d_SqlReaderModel_readUpdate_90 : decode prog_11_method_52_code 90 = .ok (.iconst 5, 1) := by decide +kernel
theorem d_SqlReaderModel_readUpdate_91 : decode prog_11_method_52_code 91 = .ok (.aload_n 0, 1) := by decide +kernel
theorem d_SqlReaderModel_readUpdate_92 : decode prog_11_method_52_code 92 = .ok (.getfield 186, 3) := by decide +kernel
theorem d_SqlReaderModel_readUpdate_95 : decode prog_11_method_52_code 95 = .ok (.iconst 0, 1) := by decide +kernel
theorem d_SqlReaderModel_readUpdate_96 : decode prog_11_method_52_code 96 = .ok (.invokevirtual 283, 3) := by decide +kernel
theorem d_SqlReaderModel_readUpdate_99 : decode prog_11_method_52_code 99 = .ok (.aload_n 0, 1) := by decide +kernel
theorem d_SqlReaderModel_readUpdate_100 : decode prog_11_method_52_code 100 = .ok (.dup, 1) := by decide +kernel
theorem d_SqlReaderModel_readUpdate_101 : decode prog_11_method_52_code 101 = .ok (.getfield 186, 3) := by decide +kernel
theorem d_SqlReaderModel_readUpdate_104 : decode prog_11_method_52_code 104 = .ok (.iconst 1, 1) := by decide +kernel
theorem d_SqlReaderModel_readUpdate_105 : decode prog_11_method_52_code 105 = .ok (.iadd, 1) := by decide +kernel
theorem d_SqlReaderModel_readUpdate_106 : decode prog_11_method_52_code 106 = .ok (.putfield 186, 3) := by decide +kernel
theorem d_SqlReaderModel_readUpdate_109 : decode prog_11_method_52_code 109 = .ok (.aload_n 0, 1) := by decide +kernel
theorem d_SqlReaderModel_readUpdate_110 : decode prog_11_method_52_code 110 = .ok (.ldc_w 387, 3) := by decide +kernel
theorem d_SqlReaderModel_readUpdate_113 : decode prog_11_method_52_code 113 = .ok (.invokevirtual 421, 3) := by decide +kernel
theorem d_SqlReaderModel_readUpdate_116 : decode prog_11_method_52_code 116 = .ok (.istore_n 1, 1) := by decide +kernel
theorem d_SqlReaderModel_readUpdate_117 : decode prog_11_method_52_code 117 = .ok (.goto (-82), 3) := by decide +kernel
theorem d_SqlReaderModel_readUpdate_120 : decode prog_11_method_52_code 120 = .ok (.aload_n 0, 1) := by decide +kernel
theorem d_SqlReaderModel_readUpdate_121 : decode prog_11_method_52_code 121 = .ok (.invokevirtual 483, 3) := by decide +kernel
theorem d_SqlReaderModel_readUpdate_124 : decode prog_11_method_52_code 124 = .ok (.return_, 1) := by decide +kernel
theorem d_SqlReaderModel_readValues_0 : decode prog_11_method_62_code 0 = .ok (.aload_n 0, 1) := by decide +kernel
theorem d_SqlReaderModel_readValues_1 : decode prog_11_method_62_code 1 = .ok (.bipush 17, 2) := by decide +kernel
theorem d_SqlReaderModel_readValues_3 : decode prog_11_method_62_code 3 = .ok (.invokevirtual 535, 3) := by decide +kernel
theorem d_SqlReaderModel_readValues_6 : decode prog_11_method_62_code 6 = .ok (.aload_n 0, 1) := by decide +kernel
theorem d_SqlReaderModel_readValues_7 : decode prog_11_method_62_code 7 = .ok (.ldc_w 291, 3) := by decide +kernel
theorem d_SqlReaderModel_readValues_10 : decode prog_11_method_62_code 10 = .ok (.invokevirtual 421, 3) := by decide +kernel
theorem d_SqlReaderModel_readValues_13 : decode prog_11_method_62_code 13 = .ok (.ifCond .eq 57, 3) := by decide +kernel
theorem d_SqlReaderModel_readValues_16 : decode prog_11_method_62_code 16 = .ok (.iconst 1, 1) := by decide +kernel
theorem d_SqlReaderModel_readValues_17 : decode prog_11_method_62_code 17 = .ok (.istore_n 1, 1) := by decide +kernel
theorem d_SqlReaderModel_readValues_18 : decode prog_11_method_62_code 18 = .ok (.iload_n 1, 1) := by decide +kernel
theorem d_SqlReaderModel_readValues_19 : decode prog_11_method_62_code 19 = .ok (.ifCond .eq 44, 3) := by decide +kernel
theorem d_SqlReaderModel_readValues_22 : decode prog_11_method_62_code 22 = .ok (.aload_n 0, 1) := by decide +kernel
theorem d_SqlReaderModel_readValues_23 : decode prog_11_method_62_code 23 = .ok (.getfield 226, 3) := by decide +kernel
theorem d_SqlReaderModel_readValues_26 : decode prog_11_method_62_code 26 = .ok (.ifCond .ne 37, 3) := by decide +kernel
theorem d_SqlReaderModel_readValues_29 : decode prog_11_method_62_code 29 = .ok (.aload_n 0, 1) := by decide +kernel
theorem d_SqlReaderModel_readValues_30 : decode prog_11_method_62_code 30 = .ok (.getfield 109, 3) := by decide +kernel
theorem d_SqlReaderModel_readValues_33 : decode prog_11_method_62_code 33 = .ok (.aload_n 0, 1) := by decide +kernel
theorem d_SqlReaderModel_readValues_34 : decode prog_11_method_62_code 34 = .ok (.getfield 195, 3) := by decide +kernel
theorem d_SqlReaderModel_readValues_37 : decode prog_11_method_62_code 37 = .ok (.aload_n 0, 1) := by decide +kernel
theorem d_SqlReaderModel_readValues_38 : decode prog_11_method_62_code 38 = .ok (.invokevirtual 442, 3) := by decide +kernel
theorem d_SqlReaderModel_readValues_41 : decode prog_11_method_62_code 41 = .ok (.iastore, 1) := by decide +kernel
theorem d_SqlReaderModel_readValues_42 : decode prog_11_method_62_code 42 = .ok (.aload_n 0, 1) := by decide +kernel
theorem d_SqlReaderModel_readValues_43 : decode prog_11_method_62_code 43 = .ok (.dup, 1) := by decide +kernel
theorem d_SqlReaderModel_readValues_44 : decode prog_11_method_62_code 44 = .ok (.getfield 195, 3) := by decide +kernel
theorem d_SqlReaderModel_readValues_47 : decode prog_11_method_62_code 47 = .ok (.iconst 1, 1) := by decide +kernel
theorem d_SqlReaderModel_readValues_48 : decode prog_11_method_62_code 48 = .ok (.iadd, 1) := by decide +kernel
theorem d_SqlReaderModel_readValues_49 : decode prog_11_method_62_code 49 = .ok (.putfield 195, 3) := by decide +kernel
theorem d_SqlReaderModel_readValues_52 : decode prog_11_method_62_code 52 = .ok (.aload_n 0, 1) := by decide +kernel
theorem d_SqlReaderModel_readValues_53 : decode prog_11_method_62_code 53 = .ok (.ldc_w 387, 3) := by decide +kernel
theorem d_SqlReaderModel_readValues_56 : decode prog_11_method_62_code 56 = .ok (.invokevirtual 421, 3) := by decide +kernel
theorem d_SqlReaderModel_readValues_59 : decode prog_11_method_62_code 59 = .ok (.istore_n 1, 1) := by decide +kernel
theorem d_SqlReaderModel_readValues_60 : decode prog_11_method_62_code 60 = .ok (.goto (-42), 3) := by decide +kernel
theorem d_SqlReaderModel_readValues_63 : decode prog_11_method_62_code 63 = .ok (.aload_n 0, 1) := by decide +kernel
theorem d_SqlReaderModel_readValues_64 : decode prog_11_method_62_code 64 = .ok (.ldc_w 297, 3) := by decide +kernel
theorem d_SqlReaderModel_readValues_67 : decode prog_11_method_62_code 67 = .ok (.invokevirtual 450, 3) := by decide +kernel
theorem d_SqlReaderModel_readValues_70 : decode prog_11_method_62_code 70 = .ok (.return_, 1) := by decide +kernel
theorem d_SqlReaderModel_readWhere_0 : decode prog_11_method_47_code 0 = .ok (.aload_n 0, 1) := by decide +kernel
theorem d_SqlReaderModel_readWhere_1 : decode prog_11_method_47_code 1 = .ok (.ldc_w 429, 3) := by decide +kernel
theorem d_SqlReaderModel_readWhere_4 : decode prog_11_method_47_code 4 = .ok (.invokevirtual 421, 3) := by decide +kernel
theorem d_SqlReaderModel_readWhere_7 : decode prog_11_method_47_code 7 = .ok (.ifCond .eq 21, 3) := by decide +kernel
theorem d_SqlReaderModel_readWhere_10 : decode prog_11_method_47_code 10 = .ok (.aload_n 0, 1) := by decide +kernel
theorem d_SqlReaderModel_readWhere_11 : decode prog_11_method_47_code 11 = .ok (.aload_n 0, 1) := by decide +kernel
theorem d_SqlReaderModel_readWhere_12 : decode prog_11_method_47_code 12 = .ok (.invokevirtual 442, 3) := by decide +kernel
theorem d_SqlReaderModel_readWhere_15 : decode prog_11_method_47_code 15 = .ok (.putfield 171, 3) := by decide +kernel
theorem d_SqlReaderModel_readWhere_18 : decode prog_11_method_47_code 18 = .ok (.aload_n 0, 1) := by decide +kernel
theorem d_SqlReaderModel_readWhere_19 : decode prog_11_method_47_code 19 = .ok (.iconst 3, 1) := by decide +kernel
theorem d_SqlReaderModel_readWhere_20 : decode prog_11_method_47_code 20 = .ok (.aload_n 0, 1) := by decide +kernel
theorem d_SqlReaderModel_readWhere_21 : decode prog_11_method_47_code 21 = .ok (.getfield 171, 3) := by decide +kernel
theorem d_SqlReaderModel_readWhere_24 : decode prog_11_method_47_code 24 = .ok (.iconst 0, 1) := by decide +kernel
theorem d_SqlReaderModel_readWhere_25 : decode prog_11_method_47_code 25 = .ok (.invokevirtual 283, 3) := by decide +kernel
theorem d_SqlReaderModel_readWhere_28 : decode prog_11_method_47_code 28 = .ok (.return_, 1) := by decide +kernel
theorem d_SqlReaderModel_resolve_0 : decode prog_11_method_69_code 0 = .ok (.iconst 0, 1) := by decide +kernel
theorem d_SqlReaderModel_resolve_1 : decode prog_11_method_69_code 1 = .ok (.istore_n 2, 1) := by decide +kernel
theorem d_SqlReaderModel_resolve_2 : decode prog_11_method_69_code 2 = .ok (.iconst 0, 1) := by decide +kernel
theorem d_SqlReaderModel_resolve_3 : decode prog_11_method_69_code 3 = .ok (.istore_n 3, 1) := by decide +kernel
theorem d_SqlReaderModel_resolve_4 : decode prog_11_method_69_code 4 = .ok (.iconst 0, 1) := by decide +kernel
theorem d_SqlReaderModel_resolve_5 : decode prog_11_method_69_code 5 = .ok (.istore 4, 2) := by decide +kernel
theorem d_SqlReaderModel_resolve_7 : decode prog_11_method_69_code 7 = .ok (.iload 4, 2) := by decide +kernel
theorem d_SqlReaderModel_resolve_9 : decode prog_11_method_69_code 9 = .ok (.aload_n 0, 1) := by decide +kernel
theorem d_SqlReaderModel_resolve_10 : decode prog_11_method_69_code 10 = .ok (.getfield 183, 3) := by decide +kernel
theorem d_SqlReaderModel_resolve_13 : decode prog_11_method_69_code 13 = .ok (.if_icmp .ge 108, 3) := by decide +kernel
theorem d_SqlReaderModel_resolve_16 : decode prog_11_method_69_code 16 = .ok (.aload_n 0, 1) := by decide +kernel
theorem d_SqlReaderModel_resolve_17 : decode prog_11_method_69_code 17 = .ok (.getfield 53, 3) := by decide +kernel
theorem d_SqlReaderModel_resolve_20 : decode prog_11_method_69_code 20 = .ok (.iload_n 1, 1) := by decide +kernel
theorem d_SqlReaderModel_resolve_21 : decode prog_11_method_69_code 21 = .ok (.iaload, 1) := by decide +kernel
theorem d_SqlReaderModel_resolve_22 : decode prog_11_method_69_code 22 = .ok (.ifCond .lt 23, 3) := by decide +kernel
theorem d_SqlReaderModel_resolve_25 : decode prog_11_method_69_code 25 = .ok (.aload_n 0, 1) := by decide +kernel
theorem d_SqlReaderModel_resolve_26 : decode prog_11_method_69_code 26 = .ok (.aload_n 0, 1) := by decide +kernel
theorem d_SqlReaderModel_resolve_27 : decode prog_11_method_69_code 27 = .ok (.getfield 53, 3) := by decide +kernel
theorem d_SqlReaderModel_resolve_30 : decode prog_11_method_69_code 30 = .ok (.iload_n 1, 1) := by decide +kernel
theorem d_SqlReaderModel_resolve_31 : decode prog_11_method_69_code 31 = .ok (.iaload, 1) := by decide +kernel
theorem d_SqlReaderModel_resolve_32 : decode prog_11_method_69_code 32 = .ok (.aload_n 0, 1) := by decide +kernel
theorem d_SqlReaderModel_resolve_33 : decode prog_11_method_69_code 33 = .ok (.getfield 97, 3) := by decide +kernel
theorem d_SqlReaderModel_resolve_36 : decode prog_11_method_69_code 36 = .ok (.iload 4, 2) := by decide +kernel
theorem d_SqlReaderModel_resolve_38 : decode prog_11_method_69_code 38 = .ok (.iaload, 1) := by decide +kernel
theorem d_SqlReaderModel_resolve_39 : decode prog_11_method_69_code 39 = .ok (.invokevirtual 585, 3) := by decide +kernel
theorem d_SqlReaderModel_resolve_42 : decode prog_11_method_69_code 42 = .ok (.ifCond .eq 73, 3) := by decide +kernel
theorem d_SqlReaderModel_resolve_45 : decode prog_11_method_69_code 45 = .ok (.aload_n 0, 1) := by decide +kernel
theorem d_SqlReaderModel_resolve_46 : decode prog_11_method_69_code 46 = .ok (.aload_n 0, 1) := by decide +kernel
theorem d_SqlReaderModel_resolve_47 : decode prog_11_method_69_code 47 = .ok (.getfield 91, 3) := by decide +kernel
theorem d_SqlReaderModel_resolve_50 : decode prog_11_method_69_code 50 = .ok (.iload 4, 2) := by decide +kernel
theorem d_SqlReaderModel_resolve_52 : decode prog_11_method_69_code 52 = .ok (.iaload, 1) := by decide +kernel
theorem d_SqlReaderModel_resolve_53 : decode prog_11_method_69_code 53 = .ok (.aload_n 0, 1) := by decide +kernel
theorem d_SqlReaderModel_resolve_54 : decode prog_11_method_69_code 54 = .ok (.getfield 56, 3) := by decide +kernel
theorem d_SqlReaderModel_resolve_57 : decode prog_11_method_69_code 57 = .ok (.iload_n 1, 1) := by decide +kernel
theorem d_SqlReaderModel_resolve_58 : decode prog_11_method_69_code 58 = .ok (.iaload, 1) := by decide +kernel
theorem d_SqlReaderModel_resolve_59 : decode prog_11_method_69_code 59 = .ok (.invokevirtual 279, 3) := by decide +kernel
theorem d_SqlReaderModel_resolve_62 : decode prog_11_method_69_code 62 = .ok (.istore 5, 2) := by decide +kernel
theorem d_SqlReaderModel_resolve_64 : decode prog_11_method_69_code 64 = .ok (.iinc 2 1, 3) := by decide +kernel
theorem d_SqlReaderModel_resolve_67 : decode prog_11_method_69_code 67 = .ok (.iload 5, 2) := by decide +kernel
theorem d_SqlReaderModel_resolve_69 : decode prog_11_method_69_code 69 = .ok (.ifCond .lt 46, 3) := by decide +kernel
theorem d_SqlReaderModel_resolve_72 : decode prog_11_method_69_code 72 = .ok (.iinc 3 1, 3) := by decide +kernel
theorem d_SqlReaderModel_resolve_75 : decode prog_11_method_69_code 75 = .ok (.aload_n 0, 1) := by decide +kernel
theorem d_SqlReaderModel_resolve_76 : decode prog_11_method_69_code 76 = .ok (.getfield 44, 3) := by decide +kernel
theorem d_SqlReaderModel_resolve_79 : decode prog_11_method_69_code 79 = .ok (.iload_n 1, 1) := by decide +kernel
theorem d_SqlReaderModel_resolve_80 : decode prog_11_method_69_code 80 = .ok (.iload 4, 2) := by decide +kernel
theorem d_SqlReaderModel_resolve_82 : decode prog_11_method_69_code 82 = .ok (.iastore, 1) := by decide +kernel
theorem d_SqlReaderModel_resolve_83 : decode prog_11_method_69_code 83 = .ok (.aload_n 0, 1) := by decide +kernel
theorem d_SqlReaderModel_resolve_84 : decode prog_11_method_69_code 84 = .ok (.getfield 47, 3) := by decide +kernel
theorem d_SqlReaderModel_resolve_87 : decode prog_11_method_69_code 87 = .ok (.iload_n 1, 1) := by decide +kernel
theorem d_SqlReaderModel_resolve_88 : decode prog_11_method_69_code 88 = .ok (.iload 5, 2) := by decide +kernel
theorem d_SqlReaderModel_resolve_90 : decode prog_11_method_69_code 90 = .ok (.iastore, 1) := by decide +kernel
theorem d_SqlReaderModel_resolve_91 : decode prog_11_method_69_code 91 = .ok (.aload_n 0, 1) := by decide +kernel
theorem d_SqlReaderModel_resolve_92 : decode prog_11_method_69_code 92 = .ok (.getfield 50, 3) := by decide +kernel
theorem d_SqlReaderModel_resolve_95 : decode prog_11_method_69_code 95 = .ok (.iload_n 1, 1) := by decide +kernel
theorem d_SqlReaderModel_resolve_96 : decode prog_11_method_69_code 96 = .ok (.aload_n 0, 1) := by decide +kernel
theorem d_SqlReaderModel_resolve_97 : decode prog_11_method_69_code 97 = .ok (.getfield 38, 3) := by decide +kernel
theorem d_SqlReaderModel_resolve_100 : decode prog_11_method_69_code 100 = .ok (.bipush 8, 2) := by decide +kernel
theorem d_SqlReaderModel_resolve_102 : decode prog_11_method_69_code 102 = .ok (.aload_n 0, 1) := by decide +kernel
theorem d_SqlReaderModel_resolve_103 : decode prog_11_method_69_code 103 = .ok (.getfield 91, 3) := by decide +kernel
theorem d_SqlReaderModel_resolve_106 : decode prog_11_method_69_code 106 = .ok (.iload 4, 2) := by decide +kernel
theorem d_SqlReaderModel_resolve_108 : decode prog_11_method_69_code 108 = .ok (.iaload, 1) := by decide +kernel
theorem d_SqlReaderModel_resolve_109 : decode prog_11_method_69_code 109 = .ok (.imul, 1) := by decide +kernel
theorem d_SqlReaderModel_resolve_110 : decode prog_11_method_69_code 110 = .ok (.iload 5, 2) := by decide +kernel
theorem d_SqlReaderModel_resolve_112 : decode prog_11_method_69_code 112 = .ok (.iadd, 1) := by decide +kernel
theorem d_SqlReaderModel_resolve_113 : decode prog_11_method_69_code 113 = .ok (.iaload, 1) := by decide +kernel
theorem d_SqlReaderModel_resolve_114 : decode prog_11_method_69_code 114 = .ok (.iastore, 1) := by decide +kernel
theorem d_SqlReaderModel_resolve_115 : decode prog_11_method_69_code 115 = .ok (.iinc 4 1, 3) := by decide +kernel
theorem d_SqlReaderModel_resolve_118 : decode prog_11_method_69_code 118 = .ok (.goto (-111), 3) := by decide +kernel
theorem d_SqlReaderModel_resolve_121 : decode prog_11_method_69_code 121 = .ok (.aload_n 0, 1) := by decide +kernel
theorem d_SqlReaderModel_resolve_122 : decode prog_11_method_69_code 122 = .ok (.getfield 53, 3) := by decide +kernel
theorem d_SqlReaderModel_resolve_125 : decode prog_11_method_69_code 125 = .ok (.iload_n 1, 1) := by decide +kernel
theorem d_SqlReaderModel_resolve_126 : decode prog_11_method_69_code 126 = .ok (.iaload, 1) := by decide +kernel
theorem d_SqlReaderModel_resolve_127 : decode prog_11_method_69_code 127 = .ok (.ifCond .lt 9, 3) := by decide +kernel
theorem d_SqlReaderModel_resolve_130 : decode prog_11_method_69_code 130 = .ok (.iload_n 2, 1) := by decide +kernel
theorem d_SqlReaderModel_resolve_131 : decode prog_11_method_69_code 131 = .ok (.ifCond .ne 5, 3) := by decide +kernel
theorem d_SqlReaderModel_resolve_134 : decode prog_11_method_69_code 134 = .ok (.iconst 4, 1) := by decide +kernel
theorem d_SqlReaderModel_resolve_135 : decode prog_11_method_69_code 135 = .ok (.ireturn, 1) := by decide +kernel
theorem d_SqlReaderModel_resolve_136 : decode prog_11_method_69_code 136 = .ok (.iload_n 3, 1) := by decide +kernel
theorem d_SqlReaderModel_resolve_137 : decode prog_11_method_69_code 137 = .ok (.ifCond .ne 8, 3) := by decide +kernel
theorem d_SqlReaderModel_resolve_140 : decode prog_11_method_69_code 140 = .ok (.bipush 6, 2) := by decide +kernel
theorem d_SqlReaderModel_resolve_142 : decode prog_11_method_69_code 142 = .ok (.goto 14, 3) := by decide +kernel
theorem d_SqlReaderModel_resolve_145 : decode prog_11_method_69_code 145 = .ok (.iload_n 3, 1) := by decide +kernel
theorem d_SqlReaderModel_resolve_146 : decode prog_11_method_69_code 146 = .ok (.iconst 1, 1) := by decide +kernel
theorem d_SqlReaderModel_resolve_147 : decode prog_11_method_69_code 147 = .ok (.if_icmp .le 8, 3) := by decide +kernel
theorem d_SqlReaderModel_resolve_150 : decode prog_11_method_69_code 150 = .ok (.bipush 7, 2) := by decide +kernel
theorem d_SqlReaderModel_resolve_152 : decode prog_11_method_69_code 152 = .ok (.goto 4, 3) := by decide +kernel
theorem d_SqlReaderModel_resolve_155 : decode prog_11_method_69_code 155 = .ok (.iconst 0, 1) := by decide +kernel
theorem d_SqlReaderModel_resolve_156 : decode prog_11_method_69_code 156 = .ok (.ireturn, 1) := by decide +kernel
theorem d_SqlReaderModel_sameToken_0 : decode prog_11_method_15_code 0 = .ok (.aload_n 0, 1) := by decide +kernel
theorem d_SqlReaderModel_sameToken_1 : decode prog_11_method_15_code 1 = .ok (.getfield 20, 3) := by decide +kernel
theorem d_SqlReaderModel_sameToken_4 : decode prog_11_method_15_code 4 = .ok (.iload_n 1, 1) := by decide +kernel
theorem d_SqlReaderModel_sameToken_5 : decode prog_11_method_15_code 5 = .ok (.iaload, 1) := by decide +kernel
theorem d_SqlReaderModel_sameToken_6 : decode prog_11_method_15_code 6 = .ok (.aload_n 0, 1) := by decide +kernel
theorem d_SqlReaderModel_sameToken_7 : decode prog_11_method_15_code 7 = .ok (.getfield 17, 3) := by decide +kernel
theorem d_SqlReaderModel_sameToken_10 : decode prog_11_method_15_code 10 = .ok (.iload_n 1, 1) := by decide +kernel
theorem d_SqlReaderModel_sameToken_11 : decode prog_11_method_15_code 11 = .ok (.iaload, 1) := by decide +kernel
theorem d_SqlReaderModel_sameToken_12 : decode prog_11_method_15_code 12 = .ok (.isub, 1) := by decide +kernel
theorem d_SqlReaderModel_sameToken_13 : decode prog_11_method_15_code 13 = .ok (.aload_n 0, 1) := by decide +kernel
theorem d_SqlReaderModel_sameToken_14 : decode prog_11_method_15_code 14 = .ok (.getfield 20, 3) := by decide +kernel
theorem d_SqlReaderModel_sameToken_17 : decode prog_11_method_15_code 17 = .ok (.iload_n 2, 1) := by decide +kernel
theorem d_SqlReaderModel_sameToken_18 : decode prog_11_method_15_code 18 = .ok (.iaload, 1) := by decide +kernel
theorem d_SqlReaderModel_sameToken_19 : decode prog_11_method_15_code 19 = .ok (.aload_n 0, 1) := by decide +kernel
theorem d_SqlReaderModel_sameToken_20 : decode prog_11_method_15_code 20 = .ok (.getfield 17, 3) := by decide +kernel
theorem d_SqlReaderModel_sameToken_23 : decode prog_11_method_15_code 23 = .ok (.iload_n 2, 1) := by decide +kernel
theorem d_SqlReaderModel_sameToken_24 : decode prog_11_method_15_code 24 = .ok (.iaload, 1) := by decide +kernel
theorem d_SqlReaderModel_sameToken_25 : decode prog_11_method_15_code 25 = .ok (.isub, 1) := by decide +kernel
theorem d_SqlReaderModel_sameToken_26 : decode prog_11_method_15_code 26 = .ok (.if_icmp .ne 7, 3) := by decide +kernel
theorem d_SqlReaderModel_sameToken_29 : decode prog_11_method_15_code 29 = .ok (.iconst 1, 1) := by decide +kernel
theorem d_SqlReaderModel_sameToken_30 : decode prog_11_method_15_code 30 = .ok (.goto 4, 3) := by decide +kernel
theorem d_SqlReaderModel_sameToken_33 : decode prog_11_method_15_code 33 = .ok (.iconst 0, 1) := by decide +kernel
theorem d_SqlReaderModel_sameToken_34 : decode prog_11_method_15_code 34 = .ok (.istore_n 3, 1) := by decide +kernel
theorem d_SqlReaderModel_sameToken_35 : decode prog_11_method_15_code 35 = .ok (.iconst 0, 1) := by decide +kernel
theorem d_SqlReaderModel_sameToken_36 : decode prog_11_method_15_code 36 = .ok (.istore 4, 2) := by decide +kernel
theorem d_SqlReaderModel_sameToken_38 : decode prog_11_method_15_code 38 = .ok (.iload_n 3, 1) := by decide +kernel
theorem d_SqlReaderModel_sameToken_39 : decode prog_11_method_15_code 39 = .ok (.ifCond .eq 64, 3) := by decide +kernel
theorem d_SqlReaderModel_sameToken_42 : decode prog_11_method_15_code 42 = .ok (.iload 4, 2) := by decide +kernel
theorem d_SqlReaderModel_sameToken_44 : decode prog_11_method_15_code 44 = .ok (.aload_n 0, 1) := by decide +kernel
theorem d_SqlReaderModel_sameToken_45 : decode prog_11_method_15_code 45 = .ok (.getfield 20, 3) := by decide +kernel
theorem d_SqlReaderModel_sameToken_48 : decode prog_11_method_15_code 48 = .ok (.iload_n 1, 1) := by decide +kernel
theorem d_SqlReaderModel_sameToken_49 : decode prog_11_method_15_code 49 = .ok (.iaload, 1) := by decide +kernel
theorem d_SqlReaderModel_sameToken_50 : decode prog_11_method_15_code 50 = .ok (.aload_n 0, 1) := by decide +kernel
theorem d_SqlReaderModel_sameToken_51 : decode prog_11_method_15_code 51 = .ok (.getfield 17, 3) := by decide +kernel
theorem d_SqlReaderModel_sameToken_54 : decode prog_11_method_15_code 54 = .ok (.iload_n 1, 1) := by decide +kernel
theorem d_SqlReaderModel_sameToken_55 : decode prog_11_method_15_code 55 = .ok (.iaload, 1) := by decide +kernel
theorem d_SqlReaderModel_sameToken_56 : decode prog_11_method_15_code 56 = .ok (.isub, 1) := by decide +kernel
theorem d_SqlReaderModel_sameToken_57 : decode prog_11_method_15_code 57 = .ok (.if_icmp .ge 46, 3) := by decide +kernel
theorem d_SqlReaderModel_sameToken_60 : decode prog_11_method_15_code 60 = .ok (.aload_n 0, 1) := by decide +kernel
theorem d_SqlReaderModel_sameToken_61 : decode prog_11_method_15_code 61 = .ok (.getfield 7, 3) := by decide +kernel
theorem d_SqlReaderModel_sameToken_64 : decode prog_11_method_15_code 64 = .ok (.aload_n 0, 1) := by decide +kernel
theorem d_SqlReaderModel_sameToken_65 : decode prog_11_method_15_code 65 = .ok (.getfield 17, 3) := by decide +kernel
theorem d_SqlReaderModel_sameToken_68 : decode prog_11_method_15_code 68 = .ok (.iload_n 1, 1) := by decide +kernel
theorem d_SqlReaderModel_sameToken_69 : decode prog_11_method_15_code 69 = .ok (.iaload, 1) := by decide +kernel
theorem d_SqlReaderModel_sameToken_70 : decode prog_11_method_15_code 70 = .ok (.iload 4, 2) := by decide +kernel
theorem d_SqlReaderModel_sameToken_72 : decode prog_11_method_15_code 72 = .ok (.iadd, 1) := by decide +kernel
theorem d_SqlReaderModel_sameToken_73 : decode prog_11_method_15_code 73 = .ok (.baload, 1) := by decide +kernel
theorem d_SqlReaderModel_sameToken_74 : decode prog_11_method_15_code 74 = .ok (.aload_n 0, 1) := by decide +kernel
theorem d_SqlReaderModel_sameToken_75 : decode prog_11_method_15_code 75 = .ok (.getfield 7, 3) := by decide +kernel
theorem d_SqlReaderModel_sameToken_78 : decode prog_11_method_15_code 78 = .ok (.aload_n 0, 1) := by decide +kernel
theorem d_SqlReaderModel_sameToken_79 : decode prog_11_method_15_code 79 = .ok (.getfield 17, 3) := by decide +kernel
theorem d_SqlReaderModel_sameToken_82 : decode prog_11_method_15_code 82 = .ok (.iload_n 2, 1) := by decide +kernel
theorem d_SqlReaderModel_sameToken_83 : decode prog_11_method_15_code 83 = .ok (.iaload, 1) := by decide +kernel
theorem d_SqlReaderModel_sameToken_84 : decode prog_11_method_15_code 84 = .ok (.iload 4, 2) := by decide +kernel
theorem d_SqlReaderModel_sameToken_86 : decode prog_11_method_15_code 86 = .ok (.iadd, 1) := by decide +kernel
theorem d_SqlReaderModel_sameToken_87 : decode prog_11_method_15_code 87 = .ok (.baload, 1) := by decide +kernel
theorem d_SqlReaderModel_sameToken_88 : decode prog_11_method_15_code 88 = .ok (.if_icmp .ne 7, 3) := by decide +kernel
theorem d_SqlReaderModel_sameToken_91 : decode prog_11_method_15_code 91 = .ok (.iconst 1, 1) := by decide +kernel
theorem d_SqlReaderModel_sameToken_92 : decode prog_11_method_15_code 92 = .ok (.goto 4, 3) := by decide +kernel
theorem d_SqlReaderModel_sameToken_95 : decode prog_11_method_15_code 95 = .ok (.iconst 0, 1) := by decide +kernel
theorem d_SqlReaderModel_sameToken_96 : decode prog_11_method_15_code 96 = .ok (.istore_n 3, 1) := by decide +kernel
theorem d_SqlReaderModel_sameToken_97 : decode prog_11_method_15_code 97 = .ok (.iinc 4 1, 3) := by decide +kernel
theorem d_SqlReaderModel_sameToken_100 : decode prog_11_method_15_code 100 = .ok (.goto (-62), 3) := by decide +kernel
theorem d_SqlReaderModel_sameToken_103 : decode prog_11_method_15_code 103 = .ok (.iload_n 3, 1) := by decide +kernel
theorem d_SqlReaderModel_sameToken_104 : decode prog_11_method_15_code 104 = .ok (.ireturn, 1) := by decide +kernel
theorem d_SqlReaderModel_signEnd_0 : decode prog_11_method_11_code 0 = .ok (.aload_n 0, 1) := by decide +kernel
theorem d_SqlReaderModel_signEnd_1 : decode prog_11_method_11_code 1 = .ok (.getfield 7, 3) := by decide +kernel
theorem d_SqlReaderModel_signEnd_4 : decode prog_11_method_11_code 4 = .ok (.iload_n 1, 1) := by decide +kernel
theorem d_SqlReaderModel_signEnd_5 : decode prog_11_method_11_code 5 = .ok (.baload, 1) := by decide +kernel
theorem d_SqlReaderModel_signEnd_6 : decode prog_11_method_11_code 6 = .ok (.istore_n 2, 1) := by decide +kernel
theorem d_SqlReaderModel_signEnd_7 : decode prog_11_method_11_code 7 = .ok (.aload_n 0, 1) := by decide +kernel
theorem d_SqlReaderModel_signEnd_8 : decode prog_11_method_11_code 8 = .ok (.iload_n 1, 1) := by decide +kernel
theorem d_SqlReaderModel_signEnd_9 : decode prog_11_method_11_code 9 = .ok (.iconst 1, 1) := by decide +kernel
theorem d_SqlReaderModel_signEnd_10 : decode prog_11_method_11_code 10 = .ok (.iadd, 1) := by decide +kernel
theorem d_SqlReaderModel_signEnd_11 : decode prog_11_method_11_code 11 = .ok (.invokevirtual 236, 3) := by decide +kernel
theorem d_SqlReaderModel_signEnd_14 : decode prog_11_method_11_code 14 = .ok (.istore_n 3, 1) := by decide +kernel
theorem d_SqlReaderModel_signEnd_15 : decode prog_11_method_11_code 15 = .ok (.iload_n 2, 1) := by decide +kernel
theorem d_SqlReaderModel_signEnd_16 : decode prog_11_method_11_code 16 = .ok (.bipush 60, 2) := by decide +kernel
theorem d_SqlReaderModel_signEnd_18 : decode prog_11_method_11_code 18 = .ok (.if_icmp .ne 15, 3) := by decide +kernel
theorem d_SqlReaderModel_signEnd_21 : decode prog_11_method_11_code 21 = .ok (.iload_n 3, 1) := by decide +kernel
theorem d_SqlReaderModel_signEnd_22 : decode prog_11_method_11_code 22 = .ok (.bipush 62, 2) := by decide +kernel
theorem d_SqlReaderModel_signEnd_24 : decode prog_11_method_11_code 24 = .ok (.if_icmp .eq 33, 3) := by decide +kernel
theorem d_SqlReaderModel_signEnd_27 : decode prog_11_method_11_code 27 = .ok (.iload_n 3, 1) := by decide +kernel
theorem d_SqlReaderModel_signEnd_28 : decode prog_11_method_11_code 28 = .ok (.bipush 61, 2) := by decide +kernel
theorem d_SqlReaderModel_signEnd_30 : decode prog_11_method_11_code 30 = .ok (.if_icmp .eq 27, 3) := by decide +kernel
theorem d_SqlReaderModel_signEnd_33 : decode prog_11_method_11_code 33 = .ok (.iload_n 2, 1) := by decide +kernel
theorem d_SqlReaderModel_signEnd_34 : decode prog_11_method_11_code 34 = .ok (.bipush 62, 2) := by decide +kernel
theorem d_SqlReaderModel_signEnd_36 : decode prog_11_method_11_code 36 = .ok (.if_icmp .ne 9, 3) := by decide +kernel
theorem d_SqlReaderModel_signEnd_39 : decode prog_11_method_11_code 39 = .ok (.iload_n 3, 1) := by decide +kernel
theorem d_SqlReaderModel_signEnd_40 : decode prog_11_method_11_code 40 = .ok (.bipush 61, 2) := by decide +kernel
theorem d_SqlReaderModel_signEnd_42 : decode prog_11_method_11_code 42 = .ok (.if_icmp .eq 15, 3) := by decide +kernel
theorem d_SqlReaderModel_signEnd_45 : decode prog_11_method_11_code 45 = .ok (.iload_n 2, 1) := by decide +kernel
theorem d_SqlReaderModel_signEnd_46 : decode prog_11_method_11_code 46 = .ok (.bipush 124, 2) := by decide +kernel
theorem d_SqlReaderModel_signEnd_48 : decode prog_11_method_11_code 48 = .ok (.if_icmp .ne 13, 3) := by decide +kernel
theorem d_SqlReaderModel_signEnd_51 : decode prog_11_method_11_code 51 = .ok (.iload_n 3, 1) := by decide +kernel
theorem d_SqlReaderModel_signEnd_52 : decode prog_11_method_11_code 52 = .ok (.bipush 124, 2) := by decide +kernel
theorem d_SqlReaderModel_signEnd_54 : decode prog_11_method_11_code 54 = .ok (.if_icmp .ne 7, 3) := by decide +kernel
theorem d_SqlReaderModel_signEnd_57 : decode prog_11_method_11_code 57 = .ok (.iload_n 1, 1) := by decide +kernel
theorem d_SqlReaderModel_signEnd_58 : decode prog_11_method_11_code 58 = .ok (.iconst 2, 1) := by decide +kernel
theorem d_SqlReaderModel_signEnd_59 : decode prog_11_method_11_code 59 = .ok (.iadd, 1) := by decide +kernel
theorem d_SqlReaderModel_signEnd_60 : decode prog_11_method_11_code 60 = .ok (.ireturn, 1) := by decide +kernel
theorem d_SqlReaderModel_signEnd_61 : decode prog_11_method_11_code 61 = .ok (.iload_n 2, 1) := by decide +kernel
theorem d_SqlReaderModel_signEnd_62 : decode prog_11_method_11_code 62 = .ok (.bipush 40, 2) := by decide +kernel
theorem d_SqlReaderModel_signEnd_64 : decode prog_11_method_11_code 64 = .ok (.if_icmp .eq 75, 3) := by decide +kernel
theorem d_SqlReaderModel_signEnd_67 : decode prog_11_method_11_code 67 = .ok (.iload_n 2, 1) := by decide +kernel
theorem d_SqlReaderModel_signEnd_68 : decode prog_11_method_11_code 68 = .ok (.bipush 41, 2) := by decide +kernel
theorem d_SqlReaderModel_signEnd_70 : decode prog_11_method_11_code 70 = .ok (.if_icmp .eq 69, 3) := by decide +kernel
theorem d_SqlReaderModel_signEnd_73 : decode prog_11_method_11_code 73 = .ok (.iload_n 2, 1) := by decide +kernel
theorem d_SqlReaderModel_signEnd_74 : decode prog_11_method_11_code 74 = .ok (.bipush 44, 2) := by decide +kernel
theorem d_SqlReaderModel_signEnd_76 : decode prog_11_method_11_code 76 = .ok (.if_icmp .eq 63, 3) := by decide +kernel
theorem d_SqlReaderModel_signEnd_79 : decode prog_11_method_11_code 79 = .ok (.iload_n 2, 1) := by decide +kernel
theorem d_SqlReaderModel_signEnd_80 : decode prog_11_method_11_code 80 = .ok (.bipush 46, 2) := by decide +kernel
theorem d_SqlReaderModel_signEnd_82 : decode prog_11_method_11_code 82 = .ok (.if_icmp .eq 57, 3) := by decide +kernel
theorem d_SqlReaderModel_signEnd_85 : decode prog_11_method_11_code 85 = .ok (.iload_n 2, 1) := by decide +kernel
theorem d_SqlReaderModel_signEnd_86 : decode prog_11_method_11_code 86 = .ok (.bipush 59, 2) := by decide +kernel
theorem d_SqlReaderModel_signEnd_88 : decode prog_11_method_11_code 88 = .ok (.if_icmp .eq 51, 3) := by decide +kernel
theorem d_SqlReaderModel_signEnd_91 : decode prog_11_method_11_code 91 = .ok (.iload_n 2, 1) := by decide +kernel
theorem d_SqlReaderModel_signEnd_92 : decode prog_11_method_11_code 92 = .ok (.bipush 42, 2) := by decide +kernel
theorem d_SqlReaderModel_signEnd_94 : decode prog_11_method_11_code 94 = .ok (.if_icmp .eq 45, 3) := by decide +kernel
theorem d_SqlReaderModel_signEnd_97 : decode prog_11_method_11_code 97 = .ok (.iload_n 2, 1) := by decide +kernel
theorem d_SqlReaderModel_signEnd_98 : decode prog_11_method_11_code 98 = .ok (.bipush 61, 2) := by decide +kernel
theorem d_SqlReaderModel_signEnd_100 : decode prog_11_method_11_code 100 = .ok (.if_icmp .eq 39, 3) := by decide +kernel
theorem d_SqlReaderModel_signEnd_103 : decode prog_11_method_11_code 103 = .ok (.iload_n 2, 1) := by decide +kernel
theorem d_SqlReaderModel_signEnd_104 : decode prog_11_method_11_code 104 = .ok (.bipush 60, 2) := by decide +kernel
theorem d_SqlReaderModel_signEnd_106 : decode prog_11_method_11_code 106 = .ok (.if_icmp .eq 33, 3) := by decide +kernel
theorem d_SqlReaderModel_signEnd_109 : decode prog_11_method_11_code 109 = .ok (.iload_n 2, 1) := by decide +kernel
theorem d_SqlReaderModel_signEnd_110 : decode prog_11_method_11_code 110 = .ok (.bipush 62, 2) := by decide +kernel
theorem d_SqlReaderModel_signEnd_112 : decode prog_11_method_11_code 112 = .ok (.if_icmp .eq 27, 3) := by decide +kernel
theorem d_SqlReaderModel_signEnd_115 : decode prog_11_method_11_code 115 = .ok (.iload_n 2, 1) := by decide +kernel
theorem d_SqlReaderModel_signEnd_116 : decode prog_11_method_11_code 116 = .ok (.bipush 43, 2) := by decide +kernel
theorem d_SqlReaderModel_signEnd_118 : decode prog_11_method_11_code 118 = .ok (.if_icmp .eq 21, 3) := by decide +kernel
theorem d_SqlReaderModel_signEnd_121 : decode prog_11_method_11_code 121 = .ok (.iload_n 2, 1) := by decide +kernel
theorem d_SqlReaderModel_signEnd_122 : decode prog_11_method_11_code 122 = .ok (.bipush 45, 2) := by decide +kernel
theorem d_SqlReaderModel_signEnd_124 : decode prog_11_method_11_code 124 = .ok (.if_icmp .eq 15, 3) := by decide +kernel
theorem d_SqlReaderModel_signEnd_127 : decode prog_11_method_11_code 127 = .ok (.iload_n 2, 1) := by decide +kernel
theorem d_SqlReaderModel_signEnd_128 : decode prog_11_method_11_code 128 = .ok (.bipush 47, 2) := by decide +kernel
theorem d_SqlReaderModel_signEnd_130 : decode prog_11_method_11_code 130 = .ok (.if_icmp .eq 9, 3) := by decide +kernel
theorem d_SqlReaderModel_signEnd_133 : decode prog_11_method_11_code 133 = .ok (.iload_n 2, 1) := by decide +kernel
theorem d_SqlReaderModel_signEnd_134 : decode prog_11_method_11_code 134 = .ok (.bipush 37, 2) := by decide +kernel
theorem d_SqlReaderModel_signEnd_136 : decode prog_11_method_11_code 136 = .ok (.if_icmp .ne 7, 3) := by decide +kernel
theorem d_SqlReaderModel_signEnd_139 : decode prog_11_method_11_code 139 = .ok (.iconst 1, 1) := by decide +kernel
theorem d_SqlReaderModel_signEnd_140 : decode prog_11_method_11_code 140 = .ok (.goto 4, 3) := by decide +kernel
theorem d_SqlReaderModel_signEnd_143 : decode prog_11_method_11_code 143 = .ok (.iconst 0, 1) := by decide +kernel
theorem d_SqlReaderModel_signEnd_144 : decode prog_11_method_11_code 144 = .ok (.istore 4, 2) := by decide +kernel
theorem d_SqlReaderModel_signEnd_146 : decode prog_11_method_11_code 146 = .ok (.iload 4, 2) := by decide +kernel
theorem d_SqlReaderModel_signEnd_148 : decode prog_11_method_11_code 148 = .ok (.ifCond .eq 9, 3) := by decide +kernel
theorem d_SqlReaderModel_signEnd_151 : decode prog_11_method_11_code 151 = .ok (.iload_n 1, 1) := by decide +kernel
theorem d_SqlReaderModel_signEnd_152 : decode prog_11_method_11_code 152 = .ok (.iconst 1, 1) := by decide +kernel
theorem d_SqlReaderModel_signEnd_153 : decode prog_11_method_11_code 153 = .ok (.iadd, 1) := by decide +kernel
theorem d_SqlReaderModel_signEnd_154 : decode prog_11_method_11_code 154 = .ok (.goto 4, 3) := by decide +kernel
theorem d_SqlReaderModel_signEnd_157 : decode prog_11_method_11_code 157 = .ok (.iconst (-1), 1) := by decide +kernel
theorem d_SqlReaderModel_signEnd_158 : decode prog_11_method_11_code 158 = .ok (.ireturn, 1) := by decide +kernel
theorem d_SqlReaderModel_sizeOf_0 : decode prog_11_method_91_code 0 = .ok (.iload_n 1, 1) := by decide +kernel
theorem d_SqlReaderModel_sizeOf_1 : decode prog_11_method_91_code 1 = .ok (.bipush 6, 2) := by decide +kernel
theorem d_SqlReaderModel_sizeOf_3 : decode prog_11_method_91_code 3 = .ok (.if_icmp .eq 9, 3) := by decide +kernel
theorem d_SqlReaderModel_sizeOf_6 : decode prog_11_method_91_code 6 = .ok (.iload_n 1, 1) := by decide +kernel
theorem d_SqlReaderModel_sizeOf_7 : decode prog_11_method_91_code 7 = .ok (.bipush 9, 2) := by decide +kernel
theorem d_SqlReaderModel_sizeOf_9 : decode prog_11_method_91_code 9 = .ok (.if_icmp .ne 40, 3) := by decide +kernel
theorem d_SqlReaderModel_sizeOf_12 : decode prog_11_method_91_code 12 = .ok (.aload_n 0, 1) := by decide +kernel
theorem d_SqlReaderModel_sizeOf_13 : decode prog_11_method_91_code 13 = .ok (.getfield 140, 3) := by decide +kernel
theorem d_SqlReaderModel_sizeOf_16 : decode prog_11_method_91_code 16 = .ok (.bipush 17, 2) := by decide +kernel
theorem d_SqlReaderModel_sizeOf_18 : decode prog_11_method_91_code 18 = .ok (.if_icmp .ne 7, 3) := by decide +kernel
theorem d_SqlReaderModel_sizeOf_21 : decode prog_11_method_91_code 21 = .ok (.iconst 1, 1) := by decide +kernel
theorem d_SqlReaderModel_sizeOf_22 : decode prog_11_method_91_code 22 = .ok (.goto 4, 3) := by decide +kernel
theorem d_SqlReaderModel_sizeOf_25 : decode prog_11_method_91_code 25 = .ok (.iconst 0, 1) := by decide +kernel
theorem d_SqlReaderModel_sizeOf_26 : decode prog_11_method_91_code 26 = .ok (.iload_n 1, 1) := by decide +kernel
theorem d_SqlReaderModel_sizeOf_27 : decode prog_11_method_91_code 27 = .ok (.bipush 9, 2) := by decide +kernel
theorem d_SqlReaderModel_sizeOf_29 : decode prog_11_method_91_code 29 = .ok (.if_icmp .ne 7, 3) := by decide +kernel
theorem d_SqlReaderModel_sizeOf_32 : decode prog_11_method_91_code 32 = .ok (.iconst 1, 1) := by decide +kernel
theorem d_SqlReaderModel_sizeOf_33 : decode prog_11_method_91_code 33 = .ok (.goto 4, 3) := by decide +kernel
theorem d_SqlReaderModel_sizeOf_36 : decode prog_11_method_91_code 36 = .ok (.iconst 0, 1) := by decide +kernel
theorem d_SqlReaderModel_sizeOf_37 : decode prog_11_method_91_code 37 = .ok (.if_icmp .ne 10, 3) := by decide +kernel
theorem d_SqlReaderModel_sizeOf_40 : decode prog_11_method_91_code 40 = .ok (.aload_n 0, 1) := by decide +kernel
theorem d_SqlReaderModel_sizeOf_41 : decode prog_11_method_91_code 41 = .ok (.getfield 195, 3) := by decide +kernel
theorem d_SqlReaderModel_sizeOf_44 : decode prog_11_method_91_code 44 = .ok (.goto 4, 3) := by decide +kernel
theorem d_SqlReaderModel_sizeOf_47 : decode prog_11_method_91_code 47 = .ok (.iconst 0, 1) := by decide +kernel
theorem d_SqlReaderModel_sizeOf_48 : decode prog_11_method_91_code 48 = .ok (.ireturn, 1) := by decide +kernel
theorem d_SqlReaderModel_sizeOf_49 : decode prog_11_method_91_code 49 = .ok (.iload_n 1, 1) := by decide +kernel
theorem d_SqlReaderModel_sizeOf_50 : decode prog_11_method_91_code 50 = .ok (.ifCond .ne 10, 3) := by decide +kernel
theorem d_SqlReaderModel_sizeOf_53 : decode prog_11_method_91_code 53 = .ok (.aload_n 0, 1) := by decide +kernel
theorem d_SqlReaderModel_sizeOf_54 : decode prog_11_method_91_code 54 = .ok (.getfield 174, 3) := by decide +kernel
theorem d_SqlReaderModel_sizeOf_57 : decode prog_11_method_91_code 57 = .ok (.goto 83, 3) := by decide +kernel
theorem d_SqlReaderModel_sizeOf_60 : decode prog_11_method_91_code 60 = .ok (.iload_n 1, 1) := by decide +kernel
theorem d_SqlReaderModel_sizeOf_61 : decode prog_11_method_91_code 61 = .ok (.iconst 1, 1) := by decide +kernel
theorem d_SqlReaderModel_sizeOf_62 : decode prog_11_method_91_code 62 = .ok (.if_icmp .ne 10, 3) := by decide +kernel
theorem d_SqlReaderModel_sizeOf_65 : decode prog_11_method_91_code 65 = .ok (.aload_n 0, 1) := by decide +kernel
theorem d_SqlReaderModel_sizeOf_66 : decode prog_11_method_91_code 66 = .ok (.getfield 177, 3) := by decide +kernel
theorem d_SqlReaderModel_sizeOf_69 : decode prog_11_method_91_code 69 = .ok (.goto 71, 3) := by decide +kernel
theorem d_SqlReaderModel_sizeOf_72 : decode prog_11_method_91_code 72 = .ok (.iload_n 1, 1) := by decide +kernel
theorem d_SqlReaderModel_sizeOf_73 : decode prog_11_method_91_code 73 = .ok (.iconst 2, 1) := by decide +kernel
theorem d_SqlReaderModel_sizeOf_74 : decode prog_11_method_91_code 74 = .ok (.if_icmp .ne 10, 3) := by decide +kernel
theorem d_SqlReaderModel_sizeOf_77 : decode prog_11_method_91_code 77 = .ok (.aload_n 0, 1) := by decide +kernel
theorem d_SqlReaderModel_sizeOf_78 : decode prog_11_method_91_code 78 = .ok (.getfield 180, 3) := by decide +kernel
theorem d_SqlReaderModel_sizeOf_81 : decode prog_11_method_91_code 81 = .ok (.goto 59, 3) := by decide +kernel
theorem d_SqlReaderModel_sizeOf_84 : decode prog_11_method_91_code 84 = .ok (.iload_n 1, 1) := by decide +kernel
theorem d_SqlReaderModel_sizeOf_85 : decode prog_11_method_91_code 85 = .ok (.iconst 3, 1) := by decide +kernel
theorem d_SqlReaderModel_sizeOf_86 : decode prog_11_method_91_code 86 = .ok (.if_icmp .ne 10, 3) := by decide +kernel
theorem d_SqlReaderModel_sizeOf_89 : decode prog_11_method_91_code 89 = .ok (.aload_n 0, 1) := by decide +kernel
theorem d_SqlReaderModel_sizeOf_90 : decode prog_11_method_91_code 90 = .ok (.getfield 183, 3) := by decide +kernel
theorem d_SqlReaderModel_sizeOf_93 : decode prog_11_method_91_code 93 = .ok (.goto 47, 3) := by decide +kernel
theorem d_SqlReaderModel_sizeOf_96 : decode prog_11_method_91_code 96 = .ok (.iload_n 1, 1) := by decide +kernel
theorem d_SqlReaderModel_sizeOf_97 : decode prog_11_method_91_code 97 = .ok (.iconst 4, 1) := by decide +kernel
theorem d_SqlReaderModel_sizeOf_98 : decode prog_11_method_91_code 98 = .ok (.if_icmp .eq 8, 3) := by decide +kernel
theorem d_SqlReaderModel_sizeOf_101 : decode prog_11_method_91_code 101 = .ok (.iload_n 1, 1) := by decide +kernel
theorem d_SqlReaderModel_sizeOf_102 : decode prog_11_method_91_code 102 = .ok (.iconst 5, 1) := by decide +kernel
theorem d_SqlReaderModel_sizeOf_103 : decode prog_11_method_91_code 103 = .ok (.if_icmp .ne 10, 3) := by decide +kernel
theorem d_SqlReaderModel_sizeOf_106 : decode prog_11_method_91_code 106 = .ok (.aload_n 0, 1) := by decide +kernel
theorem d_SqlReaderModel_sizeOf_107 : decode prog_11_method_91_code 107 = .ok (.getfield 186, 3) := by decide +kernel
theorem d_SqlReaderModel_sizeOf_110 : decode prog_11_method_91_code 110 = .ok (.goto 30, 3) := by decide +kernel
theorem d_SqlReaderModel_sizeOf_113 : decode prog_11_method_91_code 113 = .ok (.iload_n 1, 1) := by decide +kernel
theorem d_SqlReaderModel_sizeOf_114 : decode prog_11_method_91_code 114 = .ok (.bipush 7, 2) := by decide +kernel
theorem d_SqlReaderModel_sizeOf_116 : decode prog_11_method_91_code 116 = .ok (.if_icmp .ne 10, 3) := by decide +kernel
theorem d_SqlReaderModel_sizeOf_119 : decode prog_11_method_91_code 119 = .ok (.aload_n 0, 1) := by decide +kernel
theorem d_SqlReaderModel_sizeOf_120 : decode prog_11_method_91_code 120 = .ok (.getfield 198, 3) := by decide +kernel
theorem d_SqlReaderModel_sizeOf_123 : decode prog_11_method_91_code 123 = .ok (.goto 17, 3) := by decide +kernel
theorem d_SqlReaderModel_sizeOf_126 : decode prog_11_method_91_code 126 = .ok (.iload_n 1, 1) := by decide +kernel
theorem d_SqlReaderModel_sizeOf_127 : decode prog_11_method_91_code 127 = .ok (.bipush 8, 2) := by decide +kernel
theorem d_SqlReaderModel_sizeOf_129 : decode prog_11_method_91_code 129 = .ok (.if_icmp .ne 10, 3) := by decide +kernel
theorem d_SqlReaderModel_sizeOf_132 : decode prog_11_method_91_code 132 = .ok (.aload_n 0, 1) := by decide +kernel
theorem d_SqlReaderModel_sizeOf_133 : decode prog_11_method_91_code 133 = .ok (.getfield 210, 3) := by decide +kernel
theorem d_SqlReaderModel_sizeOf_136 : decode prog_11_method_91_code 136 = .ok (.goto 4, 3) := by decide +kernel
theorem d_SqlReaderModel_sizeOf_139 : decode prog_11_method_91_code 139 = .ok (.iconst 0, 1) := by decide +kernel
theorem d_SqlReaderModel_sizeOf_140 : decode prog_11_method_91_code 140 = .ok (.ireturn, 1) := by decide +kernel
theorem d_SqlReaderModel_spread_0 : decode prog_11_method_77_code 0 = .ok (.iconst 0, 1) := by decide +kernel
theorem d_SqlReaderModel_spread_1 : decode prog_11_method_77_code 1 = .ok (.istore_n 1, 1) := by decide +kernel
theorem d_SqlReaderModel_spread_2 : decode prog_11_method_77_code 2 = .ok (.iconst 0, 1) := by decide +kernel
theorem d_SqlReaderModel_spread_3 : decode prog_11_method_77_code 3 = .ok (.istore_n 2, 1) := by decide +kernel
theorem d_SqlReaderModel_spread_4 : decode prog_11_method_77_code 4 = .ok (.iload_n 2, 1) := by decide +kernel
theorem d_SqlReaderModel_spread_5 : decode prog_11_method_77_code 5 = .ok (.aload_n 0, 1) := by decide +kernel
theorem d_SqlReaderModel_spread_6 : decode prog_11_method_77_code 6 = .ok (.getfield 183, 3) := by decide +kernel
theorem d_SqlReaderModel_spread_9 : decode prog_11_method_77_code 9 = .ok (.if_icmp .ge 23, 3) := by decide +kernel
theorem d_SqlReaderModel_spread_12 : decode prog_11_method_77_code 12 = .ok (.iload_n 1, 1) := by decide +kernel
theorem d_SqlReaderModel_spread_13 : decode prog_11_method_77_code 13 = .ok (.aload_n 0, 1) := by decide +kernel
theorem d_SqlReaderModel_spread_14 : decode prog_11_method_77_code 14 = .ok (.getfield 29, 3) := by decide +kernel
theorem d_SqlReaderModel_spread_17 : decode prog_11_method_77_code 17 = .ok (.aload_n 0, 1) := by decide +kernel
theorem d_SqlReaderModel_spread_18 : decode prog_11_method_77_code 18 = .ok (.getfield 91, 3) := by decide +kernel
theorem d_SqlReaderModel_spread_21 : decode prog_11_method_77_code 21 = .ok (.iload_n 2, 1) := by decide +kernel
theorem d_SqlReaderModel_spread_22 : decode prog_11_method_77_code 22 = .ok (.iaload, 1) := by decide +kernel
theorem d_SqlReaderModel_spread_23 : decode prog_11_method_77_code 23 = .ok (.iaload, 1) := by decide +kernel
theorem d_SqlReaderModel_spread_24 : decode prog_11_method_77_code 24 = .ok (.iadd, 1) := by decide +kernel
theorem d_SqlReaderModel_spread_25 : decode prog_11_method_77_code 25 = .ok (.istore_n 1, 1) := by decide +kernel
theorem d_SqlReaderModel_spread_26 : decode prog_11_method_77_code 26 = .ok (.iinc 2 1, 3) := by decide +kernel
theorem d_SqlReaderModel_spread_29 : decode prog_11_method_77_code 29 = .ok (.goto (-25), 3) := by decide +kernel
theorem d_SqlReaderModel_spread_32 : decode prog_11_method_77_code 32 = .ok (.iload_n 1, 1) := by decide +kernel
theorem d_SqlReaderModel_spread_33 : decode prog_11_method_77_code 33 = .ok (.bipush 8, 2) := by decide +kernel
theorem d_SqlReaderModel_spread_35 : decode prog_11_method_77_code 35 = .ok (.if_icmp .le 5, 3) := by decide +kernel
theorem d_SqlReaderModel_spread_38 : decode prog_11_method_77_code 38 = .ok (.iconst 3, 1) := by decide +kernel
theorem d_SqlReaderModel_spread_39 : decode prog_11_method_77_code 39 = .ok (.ireturn, 1) := by decide +kernel
theorem d_SqlReaderModel_spread_40 : decode prog_11_method_77_code 40 = .ok (.aload_n 0, 1) := by decide +kernel
theorem d_SqlReaderModel_spread_41 : decode prog_11_method_77_code 41 = .ok (.getfield 133, 3) := by decide +kernel
theorem d_SqlReaderModel_spread_44 : decode prog_11_method_77_code 44 = .ok (.iload_n 1, 1) := by decide +kernel
theorem d_SqlReaderModel_spread_45 : decode prog_11_method_77_code 45 = .ok (.iadd, 1) := by decide +kernel
theorem d_SqlReaderModel_spread_46 : decode prog_11_method_77_code 46 = .ok (.sipush 200, 3) := by decide +kernel
theorem d_SqlReaderModel_spread_49 : decode prog_11_method_77_code 49 = .ok (.if_icmp .le 5, 3) := by decide +kernel
theorem d_SqlReaderModel_spread_52 : decode prog_11_method_77_code 52 = .ok (.iconst 2, 1) := by decide +kernel
theorem d_SqlReaderModel_spread_53 : decode prog_11_method_77_code 53 = .ok (.ireturn, 1) := by decide +kernel
theorem d_SqlReaderModel_spread_54 : decode prog_11_method_77_code 54 = .ok (.iconst 0, 1) := by decide +kernel
theorem d_SqlReaderModel_spread_55 : decode prog_11_method_77_code 55 = .ok (.istore_n 2, 1) := by decide +kernel
theorem d_SqlReaderModel_spread_56 : decode prog_11_method_77_code 56 = .ok (.iload_n 2, 1) := by decide +kernel
theorem d_SqlReaderModel_spread_57 : decode prog_11_method_77_code 57 = .ok (.aload_n 0, 1) := by decide +kernel
theorem d_SqlReaderModel_spread_58 : decode prog_11_method_77_code 58 = .ok (.getfield 183, 3) := by decide +kernel
theorem d_SqlReaderModel_spread_61 : decode prog_11_method_77_code 61 = .ok (.if_icmp .ge 85, 3) := by decide +kernel
theorem d_SqlReaderModel_spread_64 : decode prog_11_method_77_code 64 = .ok (.iconst 0, 1) := by decide +kernel
theorem d_SqlReaderModel_spread_65 : decode prog_11_method_77_code 65 = .ok (.istore_n 3, 1) := by decide +kernel
theorem d_SqlReaderModel_spread_66 : decode prog_11_method_77_code 66 = .ok (.iload_n 3, 1) := by decide +kernel
theorem d_SqlReaderModel_spread_67 : decode prog_11_method_77_code 67 = .ok (.aload_n 0, 1) := by decide +kernel
theorem d_SqlReaderModel_spread_68 : decode prog_11_method_77_code 68 = .ok (.getfield 29, 3) := by decide +kernel
theorem d_SqlReaderModel_spread_71 : decode prog_11_method_77_code 71 = .ok (.aload_n 0, 1) := by decide +kernel
theorem d_SqlReaderModel_spread_72 : decode prog_11_method_77_code 72 = .ok (.getfield 91, 3) := by decide +kernel
theorem d_SqlReaderModel_spread_75 : decode prog_11_method_77_code 75 = .ok (.iload_n 2, 1) := by decide +kernel
theorem d_SqlReaderModel_spread_76 : decode prog_11_method_77_code 76 = .ok (.iaload, 1) := by decide +kernel
theorem d_SqlReaderModel_spread_77 : decode prog_11_method_77_code 77 = .ok (.iaload, 1) := by decide +kernel
theorem d_SqlReaderModel_spread_78 : decode prog_11_method_77_code 78 = .ok (.if_icmp .ge 62, 3) := by decide +kernel
theorem d_SqlReaderModel_spread_81 : decode prog_11_method_77_code 81 = .ok (.aload_n 0, 1) := by decide +kernel
theorem d_SqlReaderModel_spread_82 : decode prog_11_method_77_code 82 = .ok (.iconst 4, 1) := by decide +kernel
theorem d_SqlReaderModel_spread_83 : decode prog_11_method_77_code 83 = .ok (.iload_n 2, 1) := by decide +kernel
theorem d_SqlReaderModel_spread_84 : decode prog_11_method_77_code 84 = .ok (.iload_n 3, 1) := by decide +kernel
theorem d_SqlReaderModel_spread_85 : decode prog_11_method_77_code 85 = .ok (.invokevirtual 287, 3) := by decide +kernel
theorem d_SqlReaderModel_spread_88 : decode prog_11_method_77_code 88 = .ok (.istore 4, 2) := by decide +kernel
theorem d_SqlReaderModel_spread_90 : decode prog_11_method_77_code 90 = .ok (.aload_n 0, 1) := by decide +kernel
theorem d_SqlReaderModel_spread_91 : decode prog_11_method_77_code 91 = .ok (.getfield 50, 3) := by decide +kernel
theorem d_SqlReaderModel_spread_94 : decode prog_11_method_77_code 94 = .ok (.iload 4, 2) := by decide +kernel
theorem d_SqlReaderModel_spread_96 : decode prog_11_method_77_code 96 = .ok (.aload_n 0, 1) := by decide +kernel
theorem d_SqlReaderModel_spread_97 : decode prog_11_method_77_code 97 = .ok (.getfield 38, 3) := by decide +kernel
theorem d_SqlReaderModel_spread_100 : decode prog_11_method_77_code 100 = .ok (.bipush 8, 2) := by decide +kernel
theorem d_SqlReaderModel_spread_102 : decode prog_11_method_77_code 102 = .ok (.aload_n 0, 1) := by decide +kernel
theorem d_SqlReaderModel_spread_103 : decode prog_11_method_77_code 103 = .ok (.getfield 91, 3) := by decide +kernel
theorem d_SqlReaderModel_spread_106 : decode prog_11_method_77_code 106 = .ok (.iload_n 2, 1) := by decide +kernel
theorem d_SqlReaderModel_spread_107 : decode prog_11_method_77_code 107 = .ok (.iaload, 1) := by decide +kernel
theorem d_SqlReaderModel_spread_108 : decode prog_11_method_77_code 108 = .ok (.imul, 1) := by decide +kernel
theorem d_SqlReaderModel_spread_109 : decode prog_11_method_77_code 109 = .ok (.iload_n 3, 1) := by decide +kernel
theorem d_SqlReaderModel_spread_110 : decode prog_11_method_77_code 110 = .ok (.iadd, 1) := by decide +kernel
theorem d_SqlReaderModel_spread_111 : decode prog_11_method_77_code 111 = .ok (.iaload, 1) := by decide +kernel
theorem d_SqlReaderModel_spread_112 : decode prog_11_method_77_code 112 = .ok (.iastore, 1) := by decide +kernel
theorem d_SqlReaderModel_spread_113 : decode prog_11_method_77_code 113 = .ok (.aload_n 0, 1) := by decide +kernel
theorem d_SqlReaderModel_spread_114 : decode prog_11_method_77_code 114 = .ok (.getfield 78, 3) := by decide +kernel
theorem d_SqlReaderModel_spread_117 : decode prog_11_method_77_code 117 = .ok (.aload_n 0, 1) := by decide +kernel
theorem d_SqlReaderModel_spread_118 : decode prog_11_method_77_code 118 = .ok (.getfield 174, 3) := by decide +kernel
theorem d_SqlReaderModel_spread_121 : decode prog_11_method_77_code 121 = .ok (.iload 4, 2) := by decide +kernel
theorem d_SqlReaderModel_spread_123 : decode prog_11_method_77_code 123 = .ok (.iastore, 1) := by decide +kernel
theorem d_SqlReaderModel_spread_124 : decode prog_11_method_77_code 124 = .ok (.aload_n 0, 1) := by decide +kernel
theorem d_SqlReaderModel_spread_125 : decode prog_11_method_77_code 125 = .ok (.dup, 1) := by decide +kernel
theorem d_SqlReaderModel_spread_126 : decode prog_11_method_77_code 126 = .ok (.getfield 174, 3) := by decide +kernel
theorem d_SqlReaderModel_spread_129 : decode prog_11_method_77_code 129 = .ok (.iconst 1, 1) := by decide +kernel
theorem d_SqlReaderModel_spread_130 : decode prog_11_method_77_code 130 = .ok (.iadd, 1) := by decide +kernel
theorem d_SqlReaderModel_spread_131 : decode prog_11_method_77_code 131 = .ok (.putfield 174, 3) := by decide +kernel
theorem d_SqlReaderModel_spread_134 : decode prog_11_method_77_code 134 = .ok (.iinc 3 1, 3) := by decide +kernel
theorem d_SqlReaderModel_spread_137 : decode prog_11_method_77_code 137 = .ok (.goto (-71), 3) := by decide +kernel
theorem d_SqlReaderModel_spread_140 : decode prog_11_method_77_code 140 = .ok (.iinc 2 1, 3) := by decide +kernel
theorem d_SqlReaderModel_spread_143 : decode prog_11_method_77_code 143 = .ok (.goto (-87), 3) := by decide +kernel
theorem d_SqlReaderModel_spread_146 : decode prog_11_method_77_code 146 = .ok (.iconst 0, 1) := by decide +kernel
theorem d_SqlReaderModel_spread_147 : decode prog_11_method_77_code 147 = .ok (.ireturn, 1) := by decide +kernel
theorem d_SqlReaderModel_table_0 : decode prog_11_method_21_code 0 = .ok (.aload_n 0, 1) := by decide +kernel
theorem d_SqlReaderModel_table_1 : decode prog_11_method_21_code 1 = .ok (.invokevirtual 272, 3) := by decide +kernel
theorem d_SqlReaderModel_table_4 : decode prog_11_method_21_code 4 = .ok (.ifCond .eq 12, 3) := by decide +kernel
theorem d_SqlReaderModel_table_7 : decode prog_11_method_21_code 7 = .ok (.aload_n 0, 1) := by decide +kernel
theorem d_SqlReaderModel_table_8 : decode prog_11_method_21_code 8 = .ok (.getfield 265, 3) := by decide +kernel
theorem d_SqlReaderModel_table_11 : decode prog_11_method_21_code 11 = .ok (.bipush 8, 2) := by decide +kernel
theorem d_SqlReaderModel_table_13 : decode prog_11_method_21_code 13 = .ok (.if_icmp .ne 5, 3) := by decide +kernel
theorem d_SqlReaderModel_table_16 : decode prog_11_method_21_code 16 = .ok (.iconst (-1), 1) := by decide +kernel
theorem d_SqlReaderModel_table_17 : decode prog_11_method_21_code 17 = .ok (.ireturn, 1) := by decide +kernel
theorem d_SqlReaderModel_table_18 : decode prog_11_method_21_code 18 = .ok (.aload_n 0, 1) := by decide +kernel
theorem d_SqlReaderModel_table_19 : decode prog_11_method_21_code 19 = .ok (.iconst 0, 1) := by decide +kernel
theorem d_SqlReaderModel_table_20 : decode prog_11_method_21_code 20 = .ok (.invokevirtual 276, 3) := by decide +kernel
theorem d_SqlReaderModel_table_23 : decode prog_11_method_21_code 23 = .ok (.ifCond .lt 6, 3) := by decide +kernel
theorem d_SqlReaderModel_table_26 : decode prog_11_method_21_code 26 = .ok (.bipush (-2), 2) := by decide +kernel
theorem d_SqlReaderModel_table_28 : decode prog_11_method_21_code 28 = .ok (.ireturn, 1) := by decide +kernel
theorem d_SqlReaderModel_table_29 : decode prog_11_method_21_code 29 = .ok (.iconst 0, 1) := by decide +kernel
theorem d_SqlReaderModel_table_30 : decode prog_11_method_21_code 30 = .ok (.istore_n 1, 1) := by decide +kernel
theorem d_SqlReaderModel_table_31 : decode prog_11_method_21_code 31 = .ok (.iload_n 1, 1) := by decide +kernel
theorem d_SqlReaderModel_table_32 : decode prog_11_method_21_code 32 = .ok (.aload_n 0, 1) := by decide +kernel
theorem d_SqlReaderModel_table_33 : decode prog_11_method_21_code 33 = .ok (.getfield 20, 3) := by decide +kernel
theorem d_SqlReaderModel_table_36 : decode prog_11_method_21_code 36 = .ok (.iconst 0, 1) := by decide +kernel
theorem d_SqlReaderModel_table_37 : decode prog_11_method_21_code 37 = .ok (.iaload, 1) := by decide +kernel
theorem d_SqlReaderModel_table_38 : decode prog_11_method_21_code 38 = .ok (.if_icmp .ge 29, 3) := by decide +kernel
theorem d_SqlReaderModel_table_41 : decode prog_11_method_21_code 41 = .ok (.aload_n 0, 1) := by decide +kernel
theorem d_SqlReaderModel_table_42 : decode prog_11_method_21_code 42 = .ok (.getfield 23, 3) := by decide +kernel
theorem d_SqlReaderModel_table_45 : decode prog_11_method_21_code 45 = .ok (.bipush 16, 2) := by decide +kernel
theorem d_SqlReaderModel_table_47 : decode prog_11_method_21_code 47 = .ok (.aload_n 0, 1) := by decide +kernel
theorem d_SqlReaderModel_table_48 : decode prog_11_method_21_code 48 = .ok (.getfield 265, 3) := by decide +kernel
theorem d_SqlReaderModel_table_51 : decode prog_11_method_21_code 51 = .ok (.imul, 1) := by decide +kernel
theorem d_SqlReaderModel_table_52 : decode prog_11_method_21_code 52 = .ok (.iload_n 1, 1) := by decide +kernel
theorem d_SqlReaderModel_table_53 : decode prog_11_method_21_code 53 = .ok (.iadd, 1) := by decide +kernel
theorem d_SqlReaderModel_table_54 : decode prog_11_method_21_code 54 = .ok (.aload_n 0, 1) := by decide +kernel
theorem d_SqlReaderModel_table_55 : decode prog_11_method_21_code 55 = .ok (.getfield 7, 3) := by decide +kernel
theorem d_SqlReaderModel_table_58 : decode prog_11_method_21_code 58 = .ok (.iload_n 1, 1) := by decide +kernel
theorem d_SqlReaderModel_table_59 : decode prog_11_method_21_code 59 = .ok (.baload, 1) := by decide +kernel
theorem d_SqlReaderModel_table_60 : decode prog_11_method_21_code 60 = .ok (.bastore, 1) := by decide +kernel
theorem d_SqlReaderModel_table_61 : decode prog_11_method_21_code 61 = .ok (.iinc 1 1, 3) := by decide +kernel
theorem d_SqlReaderModel_table_64 : decode prog_11_method_21_code 64 = .ok (.goto (-33), 3) := by decide +kernel
theorem d_SqlReaderModel_table_67 : decode prog_11_method_21_code 67 = .ok (.aload_n 0, 1) := by decide +kernel
theorem d_SqlReaderModel_table_68 : decode prog_11_method_21_code 68 = .ok (.getfield 26, 3) := by decide +kernel
theorem d_SqlReaderModel_table_71 : decode prog_11_method_21_code 71 = .ok (.aload_n 0, 1) := by decide +kernel
theorem d_SqlReaderModel_table_72 : decode prog_11_method_21_code 72 = .ok (.getfield 265, 3) := by decide +kernel
theorem d_SqlReaderModel_table_75 : decode prog_11_method_21_code 75 = .ok (.aload_n 0, 1) := by decide +kernel
theorem d_SqlReaderModel_table_76 : decode prog_11_method_21_code 76 = .ok (.getfield 20, 3) := by decide +kernel
theorem d_SqlReaderModel_table_79 : decode prog_11_method_21_code 79 = .ok (.iconst 0, 1) := by decide +kernel
theorem d_SqlReaderModel_table_80 : decode prog_11_method_21_code 80 = .ok (.iaload, 1) := by decide +kernel
theorem d_SqlReaderModel_table_81 : decode prog_11_method_21_code 81 = .ok (.iastore, 1) := by decide +kernel
theorem d_SqlReaderModel_table_82 : decode prog_11_method_21_code 82 = .ok (.aload_n 0, 1) := by decide +kernel
theorem d_SqlReaderModel_table_83 : decode prog_11_method_21_code 83 = .ok (.getfield 29, 3) := by decide +kernel
theorem d_SqlReaderModel_table_86 : decode prog_11_method_21_code 86 = .ok (.aload_n 0, 1) := by decide +kernel
theorem d_SqlReaderModel_table_87 : decode prog_11_method_21_code 87 = .ok (.getfield 265, 3) := by decide +kernel
theorem d_SqlReaderModel_table_90 : decode prog_11_method_21_code 90 = .ok (.iconst 0, 1) := by decide +kernel
theorem d_SqlReaderModel_table_91 : decode prog_11_method_21_code 91 = .ok (.iastore, 1) := by decide +kernel
theorem d_SqlReaderModel_table_92 : decode prog_11_method_21_code 92 = .ok (.aload_n 0, 1) := by decide +kernel
theorem d_SqlReaderModel_table_93 : decode prog_11_method_21_code 93 = .ok (.dup, 1) := by decide +kernel
theorem d_SqlReaderModel_table_94 : decode prog_11_method_21_code 94 = .ok (.getfield 265, 3) := by decide +kernel
theorem d_SqlReaderModel_table_97 : decode prog_11_method_21_code 97 = .ok (.iconst 1, 1) := by decide +kernel
theorem d_SqlReaderModel_table_98 : decode prog_11_method_21_code 98 = .ok (.iadd, 1) := by decide +kernel
theorem d_SqlReaderModel_table_99 : decode prog_11_method_21_code 99 = .ok (.putfield 265, 3) := by decide +kernel
theorem d_SqlReaderModel_table_102 : decode prog_11_method_21_code 102 = .ok (.aload_n 0, 1) := by decide +kernel
theorem d_SqlReaderModel_table_103 : decode prog_11_method_21_code 103 = .ok (.getfield 265, 3) := by decide +kernel
theorem d_SqlReaderModel_table_106 : decode prog_11_method_21_code 106 = .ok (.iconst 1, 1) := by decide +kernel
theorem d_SqlReaderModel_table_107 : decode prog_11_method_21_code 107 = .ok (.isub, 1) := by decide +kernel
theorem d_SqlReaderModel_table_108 : decode prog_11_method_21_code 108 = .ok (.ireturn, 1) := by decide +kernel
theorem d_SqlReaderModel_tableOf_0 : decode prog_11_method_19_code 0 = .ok (.iconst (-1), 1) := by decide +kernel
theorem d_SqlReaderModel_tableOf_1 : decode prog_11_method_19_code 1 = .ok (.istore_n 2, 1) := by decide +kernel
theorem d_SqlReaderModel_tableOf_2 : decode prog_11_method_19_code 2 = .ok (.iconst 0, 1) := by decide +kernel
theorem d_SqlReaderModel_tableOf_3 : decode prog_11_method_19_code 3 = .ok (.istore_n 3, 1) := by decide +kernel
theorem d_SqlReaderModel_tableOf_4 : decode prog_11_method_19_code 4 = .ok (.iload_n 3, 1) := by decide +kernel
theorem d_SqlReaderModel_tableOf_5 : decode prog_11_method_19_code 5 = .ok (.aload_n 0, 1) := by decide +kernel
theorem d_SqlReaderModel_tableOf_6 : decode prog_11_method_19_code 6 = .ok (.getfield 265, 3) := by decide +kernel
theorem d_SqlReaderModel_tableOf_9 : decode prog_11_method_19_code 9 = .ok (.if_icmp .ge 37, 3) := by decide +kernel
theorem d_SqlReaderModel_tableOf_12 : decode prog_11_method_19_code 12 = .ok (.aload_n 0, 1) := by decide +kernel
theorem d_SqlReaderModel_tableOf_13 : decode prog_11_method_19_code 13 = .ok (.iload_n 1, 1) := by decide +kernel
theorem d_SqlReaderModel_tableOf_14 : decode prog_11_method_19_code 14 = .ok (.aload_n 0, 1) := by decide +kernel
theorem d_SqlReaderModel_tableOf_15 : decode prog_11_method_19_code 15 = .ok (.getfield 23, 3) := by decide +kernel
theorem d_SqlReaderModel_tableOf_18 : decode prog_11_method_19_code 18 = .ok (.bipush 16, 2) := by decide +kernel
theorem d_SqlReaderModel_tableOf_20 : decode prog_11_method_19_code 20 = .ok (.iload_n 3, 1) := by decide +kernel
theorem d_SqlReaderModel_tableOf_21 : decode prog_11_method_19_code 21 = .ok (.imul, 1) := by decide +kernel
theorem d_SqlReaderModel_tableOf_22 : decode prog_11_method_19_code 22 = .ok (.aload_n 0, 1) := by decide +kernel
theorem d_SqlReaderModel_tableOf_23 : decode prog_11_method_19_code 23 = .ok (.getfield 26, 3) := by decide +kernel
theorem d_SqlReaderModel_tableOf_26 : decode prog_11_method_19_code 26 = .ok (.iload_n 3, 1) := by decide +kernel
theorem d_SqlReaderModel_tableOf_27 : decode prog_11_method_19_code 27 = .ok (.iaload, 1) := by decide +kernel
theorem d_SqlReaderModel_tableOf_28 : decode prog_11_method_19_code 28 = .ok (.invokevirtual 268, 3) := by decide +kernel
theorem d_SqlReaderModel_tableOf_31 : decode prog_11_method_19_code 31 = .ok (.ifCond .eq 7, 3) := by decide +kernel
theorem d_SqlReaderModel_tableOf_34 : decode prog_11_method_19_code 34 = .ok (.iload_n 3, 1) := by decide +kernel
theorem d_SqlReaderModel_tableOf_35 : decode prog_11_method_19_code 35 = .ok (.goto 4, 3) := by decide +kernel
theorem d_SqlReaderModel_tableOf_38 : decode prog_11_method_19_code 38 = .ok (.iload_n 2, 1) := by decide +kernel
theorem d_SqlReaderModel_tableOf_39 : decode prog_11_method_19_code 39 = .ok (.istore_n 2, 1) := by decide +kernel
theorem d_SqlReaderModel_tableOf_40 : decode prog_11_method_19_code 40 = .ok (.iinc 3 1, 3) := by decide +kernel
theorem d_SqlReaderModel_tableOf_43 : decode prog_11_method_19_code 43 = .ok (.goto (-39), 3) := by decide +kernel
theorem d_SqlReaderModel_tableOf_46 : decode prog_11_method_19_code 46 = .ok (.iload_n 2, 1) := by decide +kernel
theorem d_SqlReaderModel_tableOf_47 : decode prog_11_method_19_code 47 = .ok (.ireturn, 1) := by decide +kernel
theorem d_SqlReaderModel_takes_0 : decode prog_11_method_42_code 0 = .ok (.aload_n 0, 1) := by decide +kernel
theorem d_SqlReaderModel_takes_1 : decode prog_11_method_42_code 1 = .ok (.aload_n 0, 1) := by decide +kernel
theorem d_SqlReaderModel_takes_2 : decode prog_11_method_42_code 2 = .ok (.getfield 419, 3) := by decide +kernel
theorem d_SqlReaderModel_takes_5 : decode prog_11_method_42_code 5 = .ok (.aload_n 1, 1) := by decide +kernel
theorem d_SqlReaderModel_takes_6 : decode prog_11_method_42_code 6 = .ok (.invokevirtual 293, 3) := by decide +kernel
theorem d_SqlReaderModel_takes_9 : decode prog_11_method_42_code 9 = .ok (.istore_n 2, 1) := by decide +kernel
theorem d_SqlReaderModel_takes_10 : decode prog_11_method_42_code 10 = .ok (.aload_n 0, 1) := by decide +kernel
theorem d_SqlReaderModel_takes_11 : decode prog_11_method_42_code 11 = .ok (.iload_n 2, 1) := by decide +kernel
theorem d_SqlReaderModel_takes_12 : decode prog_11_method_42_code 12 = .ok (.ifCond .eq 12, 3) := by decide +kernel
theorem d_SqlReaderModel_takes_15 : decode prog_11_method_42_code 15 = .ok (.aload_n 0, 1) := by decide +kernel
theorem d_SqlReaderModel_takes_16 : decode prog_11_method_42_code 16 = .ok (.getfield 419, 3) := by decide +kernel
theorem d_SqlReaderModel_takes_19 : decode prog_11_method_42_code 19 = .ok (.iconst 1, 1) := by decide +kernel
theorem d_SqlReaderModel_takes_20 : decode prog_11_method_42_code 20 = .ok (.iadd, 1) := by decide +kernel
theorem d_SqlReaderModel_takes_21 : decode prog_11_method_42_code 21 = .ok (.goto 7, 3) := by decide +kernel
theorem d_SqlReaderModel_takes_24 : decode prog_11_method_42_code 24 = .ok (.aload_n 0, 1) := by decide +kernel
theorem d_SqlReaderModel_takes_25 : decode prog_11_method_42_code 25 = .ok (.getfield 419, 3) := by decide +kernel
theorem d_SqlReaderModel_takes_28 : decode prog_11_method_42_code 28 = .ok (.putfield 419, 3) := by decide +kernel
theorem d_SqlReaderModel_takes_31 : decode prog_11_method_42_code 31 = .ok (.iload_n 2, 1) := by decide +kernel
theorem d_SqlReaderModel_takes_32 : decode prog_11_method_42_code 32 = .ok (.ireturn, 1) := by decide +kernel
theorem d_SqlReaderModel_takesName_0 : decode prog_11_method_18_code 0 = .ok (.aload_n 0, 1) := by decide +kernel
theorem d_SqlReaderModel_takesName_1 : decode prog_11_method_18_code 1 = .ok (.invokevirtual 262, 3) := by decide +kernel
theorem d_SqlReaderModel_takesName_4 : decode prog_11_method_18_code 4 = .ok (.aload_n 0, 1) := by decide +kernel
theorem d_SqlReaderModel_takesName_5 : decode prog_11_method_18_code 5 = .ok (.getfield 226, 3) := by decide +kernel
theorem d_SqlReaderModel_takesName_8 : decode prog_11_method_18_code 8 = .ok (.ifCond .ne 47, 3) := by decide +kernel
theorem d_SqlReaderModel_takesName_11 : decode prog_11_method_18_code 11 = .ok (.aload_n 0, 1) := by decide +kernel
theorem d_SqlReaderModel_takesName_12 : decode prog_11_method_18_code 12 = .ok (.getfield 223, 3) := by decide +kernel
theorem d_SqlReaderModel_takesName_15 : decode prog_11_method_18_code 15 = .ok (.iconst 1, 1) := by decide +kernel
theorem d_SqlReaderModel_takesName_16 : decode prog_11_method_18_code 16 = .ok (.if_icmp .ne 39, 3) := by decide +kernel
theorem d_SqlReaderModel_takesName_19 : decode prog_11_method_18_code 19 = .ok (.aload_n 0, 1) := by decide +kernel
theorem d_SqlReaderModel_takesName_20 : decode prog_11_method_18_code 20 = .ok (.getfield 13, 3) := by decide +kernel
theorem d_SqlReaderModel_takesName_23 : decode prog_11_method_18_code 23 = .ok (.iconst 0, 1) := by decide +kernel
theorem d_SqlReaderModel_takesName_24 : decode prog_11_method_18_code 24 = .ok (.iaload, 1) := by decide +kernel
theorem d_SqlReaderModel_takesName_25 : decode prog_11_method_18_code 25 = .ok (.iconst 2, 1) := by decide +kernel
theorem d_SqlReaderModel_takesName_26 : decode prog_11_method_18_code 26 = .ok (.if_icmp .ne 29, 3) := by decide +kernel
theorem d_SqlReaderModel_takesName_29 : decode prog_11_method_18_code 29 = .ok (.aload_n 0, 1) := by decide +kernel
theorem d_SqlReaderModel_takesName_30 : decode prog_11_method_18_code 30 = .ok (.getfield 17, 3) := by decide +kernel
theorem d_SqlReaderModel_takesName_33 : decode prog_11_method_18_code 33 = .ok (.iconst 0, 1) := by decide +kernel
theorem d_SqlReaderModel_takesName_34 : decode prog_11_method_18_code 34 = .ok (.iaload, 1) := by decide +kernel
theorem d_SqlReaderModel_takesName_35 : decode prog_11_method_18_code 35 = .ok (.ifCond .ne 20, 3) := by decide +kernel
theorem d_SqlReaderModel_takesName_38 : decode prog_11_method_18_code 38 = .ok (.aload_n 0, 1) := by decide +kernel
theorem d_SqlReaderModel_takesName_39 : decode prog_11_method_18_code 39 = .ok (.getfield 20, 3) := by decide +kernel
theorem d_SqlReaderModel_takesName_42 : decode prog_11_method_18_code 42 = .ok (.iconst 0, 1) := by decide +kernel
theorem d_SqlReaderModel_takesName_43 : decode prog_11_method_18_code 43 = .ok (.iaload, 1) := by decide +kernel
theorem d_SqlReaderModel_takesName_44 : decode prog_11_method_18_code 44 = .ok (.aload_n 0, 1) := by decide +kernel
theorem d_SqlReaderModel_takesName_45 : decode prog_11_method_18_code 45 = .ok (.getfield 213, 3) := by decide +kernel
theorem d_SqlReaderModel_takesName_48 : decode prog_11_method_18_code 48 = .ok (.if_icmp .ne 7, 3) := by decide +kernel
theorem d_SqlReaderModel_takesName_51 : decode prog_11_method_18_code 51 = .ok (.iconst 1, 1) := by decide +kernel
theorem d_SqlReaderModel_takesName_52 : decode prog_11_method_18_code 52 = .ok (.goto 4, 3) := by decide +kernel
theorem d_SqlReaderModel_takesName_55 : decode prog_11_method_18_code 55 = .ok (.iconst 0, 1) := by decide +kernel
theorem d_SqlReaderModel_takesName_56 : decode prog_11_method_18_code 56 = .ok (.istore_n 1, 1) := by decide +kernel
theorem d_SqlReaderModel_takesName_57 : decode prog_11_method_18_code 57 = .ok (.aload_n 0, 1) := by decide +kernel
theorem d_SqlReaderModel_takesName_58 : decode prog_11_method_18_code 58 = .ok (.iconst 0, 1) := by decide +kernel
theorem d_SqlReaderModel_takesName_59 : decode prog_11_method_18_code 59 = .ok (.putfield 213, 3) := by decide +kernel
theorem d_SqlReaderModel_takesName_62 : decode prog_11_method_18_code 62 = .ok (.iload_n 1, 1) := by decide +kernel
theorem d_SqlReaderModel_takesName_63 : decode prog_11_method_18_code 63 = .ok (.ireturn, 1) := by decide +kernel
theorem d_SqlReaderModel_targetType_0 : decode prog_11_method_72_code 0 = .ok (.iload_n 1, 1) := by decide +kernel
theorem d_SqlReaderModel_targetType_1 : decode prog_11_method_72_code 1 = .ok (.aload_n 0, 1) := by decide +kernel
theorem d_SqlReaderModel_targetType_2 : decode prog_11_method_72_code 2 = .ok (.getfield 29, 3) := by decide +kernel
theorem d_SqlReaderModel_targetType_5 : decode prog_11_method_72_code 5 = .ok (.aload_n 0, 1) := by decide +kernel
theorem d_SqlReaderModel_targetType_6 : decode prog_11_method_72_code 6 = .ok (.getfield 146, 3) := by decide +kernel
theorem d_SqlReaderModel_targetType_9 : decode prog_11_method_72_code 9 = .ok (.iaload, 1) := by decide +kernel
theorem d_SqlReaderModel_targetType_10 : decode prog_11_method_72_code 10 = .ok (.if_icmp .ge 20, 3) := by decide +kernel
theorem d_SqlReaderModel_targetType_13 : decode prog_11_method_72_code 13 = .ok (.aload_n 0, 1) := by decide +kernel
theorem d_SqlReaderModel_targetType_14 : decode prog_11_method_72_code 14 = .ok (.getfield 38, 3) := by decide +kernel
theorem d_SqlReaderModel_targetType_17 : decode prog_11_method_72_code 17 = .ok (.bipush 8, 2) := by decide +kernel
theorem d_SqlReaderModel_targetType_19 : decode prog_11_method_72_code 19 = .ok (.aload_n 0, 1) := by decide +kernel
theorem d_SqlReaderModel_targetType_20 : decode prog_11_method_72_code 20 = .ok (.getfield 146, 3) := by decide +kernel
theorem d_SqlReaderModel_targetType_23 : decode prog_11_method_72_code 23 = .ok (.imul, 1) := by decide +kernel
theorem d_SqlReaderModel_targetType_24 : decode prog_11_method_72_code 24 = .ok (.iload_n 1, 1) := by decide +kernel
theorem d_SqlReaderModel_targetType_25 : decode prog_11_method_72_code 25 = .ok (.iadd, 1) := by decide +kernel
theorem d_SqlReaderModel_targetType_26 : decode prog_11_method_72_code 26 = .ok (.iaload, 1) := by decide +kernel
theorem d_SqlReaderModel_targetType_27 : decode prog_11_method_72_code 27 = .ok (.goto 4, 3) := by decide +kernel
theorem d_SqlReaderModel_targetType_30 : decode prog_11_method_72_code 30 = .ok (.iconst 0, 1) := by decide +kernel
theorem d_SqlReaderModel_targetType_31 : decode prog_11_method_72_code 31 = .ok (.ireturn, 1) := by decide +kernel
theorem d_SqlReaderModel_token_0 : decode prog_11_method_9_code 0 = .ok (.aload_n 0, 1) := by decide +kernel
theorem d_SqlReaderModel_token_1 : decode prog_11_method_9_code 1 = .ok (.getfield 13, 3) := by decide +kernel
theorem d_SqlReaderModel_token_4 : decode prog_11_method_9_code 4 = .ok (.aload_n 0, 1) := by decide +kernel
theorem d_SqlReaderModel_token_5 : decode prog_11_method_9_code 5 = .ok (.getfield 223, 3) := by decide +kernel
theorem d_SqlReaderModel_token_8 : decode prog_11_method_9_code 8 = .ok (.iload_n 1, 1) := by decide +kernel
theorem d_SqlReaderModel_token_9 : decode prog_11_method_9_code 9 = .ok (.iastore, 1) := by decide +kernel
theorem d_SqlReaderModel_token_10 : decode prog_11_method_9_code 10 = .ok (.aload_n 0, 1) := by decide +kernel
theorem d_SqlReaderModel_token_11 : decode prog_11_method_9_code 11 = .ok (.getfield 17, 3) := by decide +kernel
theorem d_SqlReaderModel_token_14 : decode prog_11_method_9_code 14 = .ok (.aload_n 0, 1) := by decide +kernel
theorem d_SqlReaderModel_token_15 : decode prog_11_method_9_code 15 = .ok (.getfield 223, 3) := by decide +kernel
theorem d_SqlReaderModel_token_18 : decode prog_11_method_9_code 18 = .ok (.iload_n 2, 1) := by decide +kernel
theorem d_SqlReaderModel_token_19 : decode prog_11_method_9_code 19 = .ok (.iastore, 1) := by decide +kernel
theorem d_SqlReaderModel_token_20 : decode prog_11_method_9_code 20 = .ok (.aload_n 0, 1) := by decide +kernel
theorem d_SqlReaderModel_token_21 : decode prog_11_method_9_code 21 = .ok (.getfield 20, 3) := by decide +kernel
theorem d_SqlReaderModel_token_24 : decode prog_11_method_9_code 24 = .ok (.aload_n 0, 1) := by decide +kernel
theorem d_SqlReaderModel_token_25 : decode prog_11_method_9_code 25 = .ok (.getfield 223, 3) := by decide +kernel
theorem d_SqlReaderModel_token_28 : decode prog_11_method_9_code 28 = .ok (.iload_n 3, 1) := by decide +kernel
theorem d_SqlReaderModel_token_29 : decode prog_11_method_9_code 29 = .ok (.iastore, 1) := by decide +kernel
theorem d_SqlReaderModel_token_30 : decode prog_11_method_9_code 30 = .ok (.aload_n 0, 1) := by decide +kernel
theorem d_SqlReaderModel_token_31 : decode prog_11_method_9_code 31 = .ok (.dup, 1) := by decide +kernel
theorem d_SqlReaderModel_token_32 : decode prog_11_method_9_code 32 = .ok (.getfield 223, 3) := by decide +kernel
theorem d_SqlReaderModel_token_35 : decode prog_11_method_9_code 35 = .ok (.iconst 1, 1) := by decide +kernel
theorem d_SqlReaderModel_token_36 : decode prog_11_method_9_code 36 = .ok (.iadd, 1) := by decide +kernel
theorem d_SqlReaderModel_token_37 : decode prog_11_method_9_code 37 = .ok (.putfield 223, 3) := by decide +kernel
theorem d_SqlReaderModel_token_40 : decode prog_11_method_9_code 40 = .ok (.return_, 1) := by decide +kernel
theorem d_SqlReaderModel_type_0 : decode prog_11_method_3_code 0 = .ok (.iload_n 3, 1) := by decide +kernel
theorem d_SqlReaderModel_type_1 : decode prog_11_method_3_code 1 = .ok (.iconst 1, 1) := by decide +kernel
theorem d_SqlReaderModel_type_2 : decode prog_11_method_3_code 2 = .ok (.if_icmp .lt 21, 3) := by decide +kernel
theorem d_SqlReaderModel_type_5 : decode prog_11_method_3_code 5 = .ok (.iload_n 3, 1) := by decide +kernel
theorem d_SqlReaderModel_type_6 : decode prog_11_method_3_code 6 = .ok (.bipush 8, 2) := by decide +kernel
theorem d_SqlReaderModel_type_8 : decode prog_11_method_3_code 8 = .ok (.if_icmp .gt 15, 3) := by decide +kernel
theorem d_SqlReaderModel_type_11 : decode prog_11_method_3_code 11 = .ok (.aload_n 0, 1) := by decide +kernel
theorem d_SqlReaderModel_type_12 : decode prog_11_method_3_code 12 = .ok (.getfield 213, 3) := by decide +kernel
theorem d_SqlReaderModel_type_15 : decode prog_11_method_3_code 15 = .ok (.iload_n 3, 1) := by decide +kernel
theorem d_SqlReaderModel_type_16 : decode prog_11_method_3_code 16 = .ok (.iadd, 1) := by decide +kernel
theorem d_SqlReaderModel_type_17 : decode prog_11_method_3_code 17 = .ok (.sipush 2000, 3) := by decide +kernel
theorem d_SqlReaderModel_type_20 : decode prog_11_method_3_code 20 = .ok (.if_icmp .le 5, 3) := by decide +kernel
theorem d_SqlReaderModel_type_23 : decode prog_11_method_3_code 23 = .ok (.iconst 0, 1) := by decide +kernel
theorem d_SqlReaderModel_type_24 : decode prog_11_method_3_code 24 = .ok (.ireturn, 1) := by decide +kernel
theorem d_SqlReaderModel_type_25 : decode prog_11_method_3_code 25 = .ok (.iload_n 3, 1) := by decide +kernel
theorem d_SqlReaderModel_type_26 : decode prog_11_method_3_code 26 = .ok (.iconst 1, 1) := by decide +kernel
theorem d_SqlReaderModel_type_27 : decode prog_11_method_3_code 27 = .ok (.isub, 1) := by decide +kernel
theorem d_SqlReaderModel_type_28 : decode prog_11_method_3_code 28 = .ok (.istore 4, 2) := by decide +kernel
theorem d_SqlReaderModel_type_30 : decode prog_11_method_3_code 30 = .ok (.iload 4, 2) := by decide +kernel
theorem d_SqlReaderModel_type_32 : decode prog_11_method_3_code 32 = .ok (.ifCond .lt 37, 3) := by decide +kernel
theorem d_SqlReaderModel_type_35 : decode prog_11_method_3_code 35 = .ok (.aload_n 0, 1) := by decide +kernel
theorem d_SqlReaderModel_type_36 : decode prog_11_method_3_code 36 = .ok (.getfield 7, 3) := by decide +kernel
theorem d_SqlReaderModel_type_39 : decode prog_11_method_3_code 39 = .ok (.aload_n 0, 1) := by decide +kernel
theorem d_SqlReaderModel_type_40 : decode prog_11_method_3_code 40 = .ok (.getfield 213, 3) := by decide +kernel
theorem d_SqlReaderModel_type_43 : decode prog_11_method_3_code 43 = .ok (.lload_n 1, 1) := by decide +kernel
theorem d_SqlReaderModel_type_44 : decode prog_11_method_3_code 44 = .ok (.bipush 8, 2) := by decide +kernel
theorem d_SqlReaderModel_type_46 : decode prog_11_method_3_code 46 = .ok (.iload 4, 2) := by decide +kernel
theorem d_SqlReaderModel_type_48 : decode prog_11_method_3_code 48 = .ok (.imul, 1) := by decide +kernel
theorem d_SqlReaderModel_type_49 : decode prog_11_method_3_code 49 = .ok (.lshr, 1) := by decide +kernel
theorem d_SqlReaderModel_type_50 : decode prog_11_method_3_code 50 = .ok (.l2i, 1) := by decide +kernel
theorem d_SqlReaderModel_type_51 : decode prog_11_method_3_code 51 = .ok (.i2b, 1) := by decide +kernel
theorem d_SqlReaderModel_type_52 : decode prog_11_method_3_code 52 = .ok (.bastore, 1) := by decide +kernel
theorem d_SqlReaderModel_type_53 : decode prog_11_method_3_code 53 = .ok (.aload_n 0, 1) := by decide +kernel
theorem d_SqlReaderModel_type_54 : decode prog_11_method_3_code 54 = .ok (.dup, 1) := by decide +kernel
theorem d_SqlReaderModel_type_55 : decode prog_11_method_3_code 55 = .ok (.getfield 213, 3) := by decide +kernel
theorem d_SqlReaderModel_type_58 : decode prog_11_method_3_code 58 = .ok (.iconst 1, 1) := by decide +kernel
theorem d_SqlReaderModel_type_59 : decode prog_11_method_3_code 59 = .ok (.iadd, 1) := by decide +kernel
theorem d_SqlReaderModel_type_60 : decode prog_11_method_3_code 60 = .ok (.putfield 213, 3) := by decide +kernel
theorem d_SqlReaderModel_type_63 : decode prog_11_method_3_code 63 = .ok (.iinc 4 (-1), 3) := by decide +kernel
theorem d_SqlReaderModel_type_66 : decode prog_11_method_3_code 66 = .ok (.goto (-36), 3) := by decide +kernel
theorem d_SqlReaderModel_type_69 : decode prog_11_method_3_code 69 = .ok (.iconst 1, 1) := by decide +kernel
theorem d_SqlReaderModel_type_70 : decode prog_11_method_3_code 70 = .ok (.ireturn, 1) := by decide +kernel
theorem d_SqlReaderModel_typeOf_0 : decode prog_11_method_65_code 0 = .ok (.aload_n 0, 1) := by decide +kernel
theorem d_SqlReaderModel_typeOf_1 : decode prog_11_method_65_code 1 = .ok (.getfield 41, 3) := by decide +kernel
theorem d_SqlReaderModel_typeOf_4 : decode prog_11_method_65_code 4 = .ok (.iload_n 1, 1) := by decide +kernel
theorem d_SqlReaderModel_typeOf_5 : decode prog_11_method_65_code 5 = .ok (.iaload, 1) := by decide +kernel
theorem d_SqlReaderModel_typeOf_6 : decode prog_11_method_65_code 6 = .ok (.bipush 28, 2) := by decide +kernel
theorem d_SqlReaderModel_typeOf_8 : decode prog_11_method_65_code 8 = .ok (.if_icmp .ne 17, 3) := by decide +kernel
theorem d_SqlReaderModel_typeOf_11 : decode prog_11_method_65_code 11 = .ok (.aload_n 0, 1) := by decide +kernel
theorem d_SqlReaderModel_typeOf_12 : decode prog_11_method_65_code 12 = .ok (.getfield 118, 3) := by decide +kernel
theorem d_SqlReaderModel_typeOf_15 : decode prog_11_method_65_code 15 = .ok (.aload_n 0, 1) := by decide +kernel
theorem d_SqlReaderModel_typeOf_16 : decode prog_11_method_65_code 16 = .ok (.getfield 44, 3) := by decide +kernel
theorem d_SqlReaderModel_typeOf_19 : decode prog_11_method_65_code 19 = .ok (.iload_n 1, 1) := by decide +kernel
theorem d_SqlReaderModel_typeOf_20 : decode prog_11_method_65_code 20 = .ok (.iaload, 1) := by decide +kernel
theorem d_SqlReaderModel_typeOf_21 : decode prog_11_method_65_code 21 = .ok (.iaload, 1) := by decide +kernel
theorem d_SqlReaderModel_typeOf_22 : decode prog_11_method_65_code 22 = .ok (.goto 9, 3) := by decide +kernel
theorem d_SqlReaderModel_typeOf_25 : decode prog_11_method_65_code 25 = .ok (.aload_n 0, 1) := by decide +kernel
theorem d_SqlReaderModel_typeOf_26 : decode prog_11_method_65_code 26 = .ok (.getfield 50, 3) := by decide +kernel
theorem d_SqlReaderModel_typeOf_29 : decode prog_11_method_65_code 29 = .ok (.iload_n 1, 1) := by decide +kernel
theorem d_SqlReaderModel_typeOf_30 : decode prog_11_method_65_code 30 = .ok (.iaload, 1) := by decide +kernel
theorem d_SqlReaderModel_typeOf_31 : decode prog_11_method_65_code 31 = .ok (.ireturn, 1) := by decide +kernel
theorem d_SqlReaderModel_value_0 : decode prog_11_method_88_code 0 = .ok (.iload_n 1, 1) := by decide +kernel
theorem d_SqlReaderModel_value_1 : decode prog_11_method_88_code 1 = .ok (.ifCond .lt 11, 3) := by decide +kernel
theorem d_SqlReaderModel_value_4 : decode prog_11_method_88_code 4 = .ok (.iload_n 1, 1) := by decide +kernel
theorem d_SqlReaderModel_value_5 : decode prog_11_method_88_code 5 = .ok (.aload_n 0, 1) := by decide +kernel
theorem d_SqlReaderModel_value_6 : decode prog_11_method_88_code 6 = .ok (.getfield 133, 3) := by decide +kernel
theorem d_SqlReaderModel_value_9 : decode prog_11_method_88_code 9 = .ok (.if_icmp .lt 7, 3) := by decide +kernel
theorem d_SqlReaderModel_value_12 : decode prog_11_method_88_code 12 = .ok (.lconst 0, 1) := by decide +kernel
theorem d_SqlReaderModel_value_13 : decode prog_11_method_88_code 13 = .ok (.goto 43, 3) := by decide +kernel
theorem d_SqlReaderModel_value_16 : decode prog_11_method_88_code 16 = .ok (.aload_n 0, 1) := by decide +kernel
theorem d_SqlReaderModel_value_17 : decode prog_11_method_88_code 17 = .ok (.getfield 41, 3) := by decide +kernel
theorem d_SqlReaderModel_value_20 : decode prog_11_method_88_code 20 = .ok (.iload_n 1, 1) := by decide +kernel
theorem d_SqlReaderModel_value_21 : decode prog_11_method_88_code 21 = .ok (.iaload, 1) := by decide +kernel
theorem d_SqlReaderModel_value_22 : decode prog_11_method_88_code 22 = .ok (.iconst 1, 1) := by decide +kernel
theorem d_SqlReaderModel_value_23 : decode prog_11_method_88_code 23 = .ok (.if_icmp .ne 12, 3) := by decide +kernel
theorem d_SqlReaderModel_value_26 : decode prog_11_method_88_code 26 = .ok (.aload_n 0, 1) := by decide +kernel
theorem d_SqlReaderModel_value_27 : decode prog_11_method_88_code 27 = .ok (.getfield 59, 3) := by decide +kernel
theorem d_SqlReaderModel_value_30 : decode prog_11_method_88_code 30 = .ok (.iload_n 1, 1) := by decide +kernel
theorem d_SqlReaderModel_value_31 : decode prog_11_method_88_code 31 = .ok (.laload, 1) := by decide +kernel
theorem d_SqlReaderModel_value_32 : decode prog_11_method_88_code 32 = .ok (.goto 24, 3) := by decide +kernel
theorem d_SqlReaderModel_value_35 : decode prog_11_method_88_code 35 = .ok (.aload_n 0, 1) := by decide +kernel
theorem d_SqlReaderModel_value_36 : decode prog_11_method_88_code 36 = .ok (.getfield 41, 3) := by decide +kernel
theorem d_SqlReaderModel_value_39 : decode prog_11_method_88_code 39 = .ok (.iload_n 1, 1) := by decide +kernel
theorem d_SqlReaderModel_value_40 : decode prog_11_method_88_code 40 = .ok (.iaload, 1) := by decide +kernel
theorem d_SqlReaderModel_value_41 : decode prog_11_method_88_code 41 = .ok (.iconst 2, 1) := by decide +kernel
theorem d_SqlReaderModel_value_42 : decode prog_11_method_88_code 42 = .ok (.if_icmp .ne 13, 3) := by decide +kernel
theorem d_SqlReaderModel_value_45 : decode prog_11_method_88_code 45 = .ok (.aload_n 0, 1) := by decide +kernel
theorem d_SqlReaderModel_value_46 : decode prog_11_method_88_code 46 = .ok (.getfield 66, 3) := by decide +kernel
theorem d_SqlReaderModel_value_49 : decode prog_11_method_88_code 49 = .ok (.iload_n 1, 1) := by decide +kernel
theorem d_SqlReaderModel_value_50 : decode prog_11_method_88_code 50 = .ok (.iaload, 1) := by decide +kernel
theorem d_SqlReaderModel_value_51 : decode prog_11_method_88_code 51 = .ok (.i2l, 1) := by decide +kernel
theorem d_SqlReaderModel_value_52 : decode prog_11_method_88_code 52 = .ok (.goto 4, 3) := by decide +kernel
theorem d_SqlReaderModel_value_55 : decode prog_11_method_88_code 55 = .ok (.lconst 0, 1) := by decide +kernel
theorem d_SqlReaderModel_value_56 : decode prog_11_method_88_code 56 = .ok (.lreturn, 1) := by decide +kernel
