theorem d_Meaning_parameterType_20 : decode prog_4_method_22_code 20 = .ok (.iload_n 2, 1) := by decide +kernel
theorem d_Meaning_parameterType_21 : decode prog_4_method_22_code 21 = .ok (.if_icmp .ge 19, 3) := by decide +kernel
theorem d_Meaning_parameterType_24 : decode prog_4_method_22_code 24 = .ok (.aload_n 0, 1) := by decide +kernel
theorem d_Meaning_parameterType_25 : decode prog_4_method_22_code 25 = .ok (.getfield 28, 3) := by decide +kernel
theorem d_Meaning_parameterType_28 : decode prog_4_method_22_code 28 = .ok (.bipush 8, 2) := by decide +kernel
theorem d_Meaning_parameterType_30 : decode prog_4_method_22_code 30 = .ok (.iconst 0, 1) := by decide +kernel
theorem d_Meaning_parameterType_31 : decode prog_4_method_22_code 31 = .ok (.invokevirtual 80, 3) := by decide +kernel
theorem d_Meaning_parameterType_34 : decode prog_4_method_22_code 34 = .ok (.iinc 3 1, 3) := by decide +kernel
theorem d_Meaning_parameterType_37 : decode prog_4_method_22_code 37 = .ok (.goto (-18), 3) := by decide +kernel
theorem d_Meaning_parameterType_40 : decode prog_4_method_22_code 40 = .ok (.aload_n 0, 1) := by decide +kernel
theorem d_Meaning_parameterType_41 : decode prog_4_method_22_code 41 = .ok (.getfield 28, 3) := by decide +kernel
theorem d_Meaning_parameterType_44 : decode prog_4_method_22_code 44 = .ok (.bipush 8, 2) := by decide +kernel
theorem d_Meaning_parameterType_46 : decode prog_4_method_22_code 46 = .ok (.iload_n 2, 1) := by decide +kernel
theorem d_Meaning_parameterType_47 : decode prog_4_method_22_code 47 = .ok (.iconst 1, 1) := by decide +kernel
theorem d_Meaning_parameterType_48 : decode prog_4_method_22_code 48 = .ok (.isub, 1) := by decide +kernel
theorem d_Meaning_parameterType_49 : decode prog_4_method_22_code 49 = .ok (.invokevirtual 70, 3) := by decide +kernel
theorem d_Meaning_parameterType_52 : decode prog_4_method_22_code 52 = .ok (.ifCond .ne 30, 3) := by decide +kernel
theorem d_Meaning_parameterType_55 : decode prog_4_method_22_code 55 = .ok (.aload_n 0, 1) := by decide +kernel
theorem d_Meaning_parameterType_56 : decode prog_4_method_22_code 56 = .ok (.iload_n 1, 1) := by decide +kernel
theorem d_Meaning_parameterType_57 : decode prog_4_method_22_code 57 = .ok (.invokevirtual 222, 3) := by decide +kernel
theorem d_Meaning_parameterType_60 : decode prog_4_method_22_code 60 = .ok (.istore_n 3, 1) := by decide +kernel
theorem d_Meaning_parameterType_61 : decode prog_4_method_22_code 61 = .ok (.aload_n 0, 1) := by decide +kernel
theorem d_Meaning_parameterType_62 : decode prog_4_method_22_code 62 = .ok (.getfield 28, 3) := by decide +kernel
theorem d_Meaning_parameterType_65 : decode prog_4_method_22_code 65 = .ok (.bipush 8, 2) := by decide +kernel
theorem d_Meaning_parameterType_67 : decode prog_4_method_22_code 67 = .ok (.iload_n 2, 1) := by decide +kernel
theorem d_Meaning_parameterType_68 : decode prog_4_method_22_code 68 = .ok (.iconst 1, 1) := by decide +kernel
theorem d_Meaning_parameterType_69 : decode prog_4_method_22_code 69 = .ok (.isub, 1) := by decide +kernel
theorem d_Meaning_parameterType_70 : decode prog_4_method_22_code 70 = .ok (.iload_n 3, 1) := by decide +kernel
theorem d_Meaning_parameterType_71 : decode prog_4_method_22_code 71 = .ok (.ifCond .ne 7, 3) := by decide +kernel
theorem d_Meaning_parameterType_74 : decode prog_4_method_22_code 74 = .ok (.iconst 2, 1) := by decide +kernel
theorem d_Meaning_parameterType_75 : decode prog_4_method_22_code 75 = .ok (.goto 4, 3) := by decide +kernel
theorem d_Meaning_parameterType_78 : decode prog_4_method_22_code 78 = .ok (.iload_n 3, 1) := by decide +kernel
theorem d_Meaning_parameterType_79 : decode prog_4_method_22_code 79 = .ok (.invokevirtual 225, 3) := by decide +kernel
theorem d_Meaning_parameterType_82 : decode prog_4_method_22_code 82 = .ok (.aload_n 0, 1) := by decide +kernel
theorem d_Meaning_parameterType_83 : decode prog_4_method_22_code 83 = .ok (.getfield 28, 3) := by decide +kernel
theorem d_Meaning_parameterType_86 : decode prog_4_method_22_code 86 = .ok (.bipush 8, 2) := by decide +kernel
theorem d_Meaning_parameterType_88 : decode prog_4_method_22_code 88 = .ok (.iload_n 2, 1) := by decide +kernel
theorem d_Meaning_parameterType_89 : decode prog_4_method_22_code 89 = .ok (.iconst 1, 1) := by decide +kernel
theorem d_Meaning_parameterType_90 : decode prog_4_method_22_code 90 = .ok (.isub, 1) := by decide +kernel
theorem d_Meaning_parameterType_91 : decode prog_4_method_22_code 91 = .ok (.invokevirtual 70, 3) := by decide +kernel
theorem d_Meaning_parameterType_94 : decode prog_4_method_22_code 94 = .ok (.ireturn, 1) := by decide +kernel
theorem d_Meaning_settingsError_0 : decode prog_4_method_14_code 0 = .ok (.iconst 0, 1) := by decide +kernel
theorem d_Meaning_settingsError_1 : decode prog_4_method_14_code 1 = .ok (.istore_n 1, 1) := by decide +kernel
theorem d_Meaning_settingsError_2 : decode prog_4_method_14_code 2 = .ok (.iconst 0, 1) := by decide +kernel
theorem d_Meaning_settingsError_3 : decode prog_4_method_14_code 3 = .ok (.istore_n 2, 1) := by decide +kernel
theorem d_Meaning_settingsError_4 : decode prog_4_method_14_code 4 = .ok (.iload_n 2, 1) := by decide +kernel
theorem d_Meaning_settingsError_5 : decode prog_4_method_14_code 5 = .ok (.aload_n 0, 1) := by decide +kernel
theorem d_Meaning_settingsError_6 : decode prog_4_method_14_code 6 = .ok (.getfield 28, 3) := by decide +kernel
theorem d_Meaning_settingsError_9 : decode prog_4_method_14_code 9 = .ok (.iconst 5, 1) := by decide +kernel
theorem d_Meaning_settingsError_10 : decode prog_4_method_14_code 10 = .ok (.invokevirtual 66, 3) := by decide +kernel
theorem d_Meaning_settingsError_13 : decode prog_4_method_14_code 13 = .ok (.if_icmp .ge 56, 3) := by decide +kernel
theorem d_Meaning_settingsError_16 : decode prog_4_method_14_code 16 = .ok (.iload_n 1, 1) := by decide +kernel
theorem d_Meaning_settingsError_17 : decode prog_4_method_14_code 17 = .ok (.ifCond .ne 52, 3) := by decide +kernel
theorem d_Meaning_settingsError_20 : decode prog_4_method_14_code 20 = .ok (.aload_n 0, 1) := by decide +kernel
theorem d_Meaning_settingsError_21 : decode prog_4_method_14_code 21 = .ok (.getfield 28, 3) := by decide +kernel
theorem d_Meaning_settingsError_24 : decode prog_4_method_14_code 24 = .ok (.iconst 4, 1) := by decide +kernel
theorem d_Meaning_settingsError_25 : decode prog_4_method_14_code 25 = .ok (.iload_n 2, 1) := by decide +kernel
theorem d_Meaning_settingsError_26 : decode prog_4_method_14_code 26 = .ok (.invokevirtual 70, 3) := by decide +kernel
theorem d_Meaning_settingsError_29 : decode prog_4_method_14_code 29 = .ok (.ifCond .lt 7, 3) := by decide +kernel
theorem d_Meaning_settingsError_32 : decode prog_4_method_14_code 32 = .ok (.iconst 1, 1) := by decide +kernel
theorem d_Meaning_settingsError_33 : decode prog_4_method_14_code 33 = .ok (.goto 4, 3) := by decide +kernel
theorem d_Meaning_settingsError_36 : decode prog_4_method_14_code 36 = .ok (.iconst 0, 1) := by decide +kernel
theorem d_Meaning_settingsError_37 : decode prog_4_method_14_code 37 = .ok (.istore_n 3, 1) := by decide +kernel
theorem d_Meaning_settingsError_38 : decode prog_4_method_14_code 38 = .ok (.iload_n 3, 1) := by decide +kernel
theorem d_Meaning_settingsError_39 : decode prog_4_method_14_code 39 = .ok (.ifCond .eq 21, 3) := by decide +kernel
theorem d_Meaning_settingsError_42 : decode prog_4_method_14_code 42 = .ok (.aload_n 0, 1) := by decide +kernel
theorem d_Meaning_settingsError_43 : decode prog_4_method_14_code 43 = .ok (.aload_n 0, 1) := by decide +kernel
theorem d_Meaning_settingsError_44 : decode prog_4_method_14_code 44 = .ok (.getfield 28, 3) := by decide +kernel
theorem d_Meaning_settingsError_47 : decode prog_4_method_14_code 47 = .ok (.iconst 5, 1) := by decide +kernel
theorem d_Meaning_settingsError_48 : decode prog_4_method_14_code 48 = .ok (.iload_n 2, 1) := by decide +kernel
theorem d_Meaning_settingsError_49 : decode prog_4_method_14_code 49 = .ok (.invokevirtual 70, 3) := by decide +kernel
theorem d_Meaning_settingsError_52 : decode prog_4_method_14_code 52 = .ok (.iconst 1, 1) := by decide +kernel
theorem d_Meaning_settingsError_53 : decode prog_4_method_14_code 53 = .ok (.iadd, 1) := by decide +kernel
theorem d_Meaning_settingsError_54 : decode prog_4_method_14_code 54 = .ok (.invokevirtual 125, 3) := by decide +kernel
theorem d_Meaning_settingsError_57 : decode prog_4_method_14_code 57 = .ok (.goto 5, 3) := by decide +kernel
theorem d_Meaning_settingsError_60 : decode prog_4_method_14_code 60 = .ok (.bipush 6, 2) := by decide +kernel
theorem d_Meaning_settingsError_62 : decode prog_4_method_14_code 62 = .ok (.istore_n 1, 1) := by decide +kernel
theorem d_Meaning_settingsError_63 : decode prog_4_method_14_code 63 = .ok (.iinc 2 1, 3) := by decide +kernel
theorem d_Meaning_settingsError_66 : decode prog_4_method_14_code 66 = .ok (.goto (-62), 3) := by decide +kernel
theorem d_Meaning_settingsError_69 : decode prog_4_method_14_code 69 = .ok (.iload_n 1, 1) := by decide +kernel
theorem d_Meaning_settingsError_70 : decode prog_4_method_14_code 70 = .ok (.ireturn, 1) := by decide +kernel
theorem d_Meaning_spreadStar_0 : decode prog_4_method_27_code 0 = .ok (.iconst 0, 1) := by decide +kernel
theorem d_Meaning_spreadStar_1 : decode prog_4_method_27_code 1 = .ok (.istore_n 1, 1) := by decide +kernel
theorem d_Meaning_spreadStar_2 : decode prog_4_method_27_code 2 = .ok (.iload_n 1, 1) := by decide +kernel
theorem d_Meaning_spreadStar_3 : decode prog_4_method_27_code 3 = .ok (.aload_n 0, 1) := by decide +kernel
theorem d_Meaning_spreadStar_4 : decode prog_4_method_27_code 4 = .ok (.getfield 28, 3) := by decide +kernel
theorem d_Meaning_spreadStar_7 : decode prog_4_method_27_code 7 = .ok (.iconst 3, 1) := by decide +kernel
theorem d_Meaning_spreadStar_8 : decode prog_4_method_27_code 8 = .ok (.invokevirtual 66, 3) := by decide +kernel
theorem d_Meaning_spreadStar_11 : decode prog_4_method_27_code 11 = .ok (.if_icmp .ge 91, 3) := by decide +kernel
theorem d_Meaning_spreadStar_14 : decode prog_4_method_27_code 14 = .ok (.aload_n 0, 1) := by decide +kernel
theorem d_Meaning_spreadStar_15 : decode prog_4_method_27_code 15 = .ok (.getfield 28, 3) := by decide +kernel
theorem d_Meaning_spreadStar_18 : decode prog_4_method_27_code 18 = .ok (.iconst 3, 1) := by decide +kernel
theorem d_Meaning_spreadStar_19 : decode prog_4_method_27_code 19 = .ok (.iload_n 1, 1) := by decide +kernel
theorem d_Meaning_spreadStar_20 : decode prog_4_method_27_code 20 = .ok (.invokevirtual 70, 3) := by decide +kernel
theorem d_Meaning_spreadStar_23 : decode prog_4_method_27_code 23 = .ok (.istore_n 2, 1) := by decide +kernel
theorem d_Meaning_spreadStar_24 : decode prog_4_method_27_code 24 = .ok (.iconst 0, 1) := by decide +kernel
theorem d_Meaning_spreadStar_25 : decode prog_4_method_27_code 25 = .ok (.istore_n 3, 1) := by decide +kernel
theorem d_Meaning_spreadStar_26 : decode prog_4_method_27_code 26 = .ok (.iload_n 3, 1) := by decide +kernel
theorem d_Meaning_spreadStar_27 : decode prog_4_method_27_code 27 = .ok (.aload_n 0, 1) := by decide +kernel
theorem d_Meaning_spreadStar_28 : decode prog_4_method_27_code 28 = .ok (.getfield 9, 3) := by decide +kernel
theorem d_Meaning_spreadStar_31 : decode prog_4_method_27_code 31 = .ok (.iload_n 2, 1) := by decide +kernel
theorem d_Meaning_spreadStar_32 : decode prog_4_method_27_code 32 = .ok (.invokevirtual 172, 3) := by decide +kernel
theorem d_Meaning_spreadStar_35 : decode prog_4_method_27_code 35 = .ok (.if_icmp .ge 61, 3) := by decide +kernel
theorem d_Meaning_spreadStar_38 : decode prog_4_method_27_code 38 = .ok (.aload_n 0, 1) := by decide +kernel
theorem d_Meaning_spreadStar_39 : decode prog_4_method_27_code 39 = .ok (.getfield 24, 3) := by decide +kernel
theorem d_Meaning_spreadStar_42 : decode prog_4_method_27_code 42 = .ok (.iconst 4, 1) := by decide +kernel
theorem d_Meaning_spreadStar_43 : decode prog_4_method_27_code 43 = .ok (.iconst (-1), 1) := by decide +kernel
theorem d_Meaning_spreadStar_44 : decode prog_4_method_27_code 44 = .ok (.iconst (-1), 1) := by decide +kernel
theorem d_Meaning_spreadStar_45 : decode prog_4_method_27_code 45 = .ok (.iconst (-1), 1) := by decide +kernel
theorem d_Meaning_spreadStar_46 : decode prog_4_method_27_code 46 = .ok (.invokevirtual 258, 3) := by decide +kernel
theorem d_Meaning_spreadStar_49 : decode prog_4_method_27_code 49 = .ok (.istore 4, 2) := by decide +kernel
theorem d_Meaning_spreadStar_51 : decode prog_4_method_27_code 51 = .ok (.aload_n 0, 1) := by decide +kernel
theorem d_Meaning_spreadStar_52 : decode prog_4_method_27_code 52 = .ok (.getfield 24, 3) := by decide +kernel
theorem d_Meaning_spreadStar_55 : decode prog_4_method_27_code 55 = .ok (.iload 4, 2) := by decide +kernel
theorem d_Meaning_spreadStar_57 : decode prog_4_method_27_code 57 = .ok (.iload_n 1, 1) := by decide +kernel
theorem d_Meaning_spreadStar_58 : decode prog_4_method_27_code 58 = .ok (.iload_n 3, 1) := by decide +kernel
theorem d_Meaning_spreadStar_59 : decode prog_4_method_27_code 59 = .ok (.invokevirtual 147, 3) := by decide +kernel
theorem d_Meaning_spreadStar_62 : decode prog_4_method_27_code 62 = .ok (.aload_n 0, 1) := by decide +kernel
theorem d_Meaning_spreadStar_63 : decode prog_4_method_27_code 63 = .ok (.getfield 24, 3) := by decide +kernel
theorem d_Meaning_spreadStar_66 : decode prog_4_method_27_code 66 = .ok (.iload 4, 2) := by decide +kernel
theorem d_Meaning_spreadStar_68 : decode prog_4_method_27_code 68 = .ok (.aload_n 0, 1) := by decide +kernel
theorem d_Meaning_spreadStar_69 : decode prog_4_method_27_code 69 = .ok (.getfield 9, 3) := by decide +kernel
theorem d_Meaning_spreadStar_72 : decode prog_4_method_27_code 72 = .ok (.iload_n 2, 1) := by decide +kernel
theorem d_Meaning_spreadStar_73 : decode prog_4_method_27_code 73 = .ok (.iload_n 3, 1) := by decide +kernel
theorem d_Meaning_spreadStar_74 : decode prog_4_method_27_code 74 = .ok (.invokevirtual 151, 3) := by decide +kernel
theorem d_Meaning_spreadStar_77 : decode prog_4_method_27_code 77 = .ok (.invokevirtual 154, 3) := by decide +kernel
theorem d_Meaning_spreadStar_80 : decode prog_4_method_27_code 80 = .ok (.aload_n 0, 1) := by decide +kernel
theorem d_Meaning_spreadStar_81 : decode prog_4_method_27_code 81 = .ok (.getfield 28, 3) := by decide +kernel
theorem d_Meaning_spreadStar_84 : decode prog_4_method_27_code 84 = .ok (.iconst 0, 1) := by decide +kernel
theorem d_Meaning_spreadStar_85 : decode prog_4_method_27_code 85 = .ok (.iload 4, 2) := by decide +kernel
theorem d_Meaning_spreadStar_87 : decode prog_4_method_27_code 87 = .ok (.invokevirtual 80, 3) := by decide +kernel
theorem d_Meaning_spreadStar_90 : decode prog_4_method_27_code 90 = .ok (.iinc 3 1, 3) := by decide +kernel
theorem d_Meaning_spreadStar_93 : decode prog_4_method_27_code 93 = .ok (.goto (-67), 3) := by decide +kernel
theorem d_Meaning_spreadStar_96 : decode prog_4_method_27_code 96 = .ok (.iinc 1 1, 3) := by decide +kernel
theorem d_Meaning_spreadStar_99 : decode prog_4_method_27_code 99 = .ok (.goto (-97), 3) := by decide +kernel
theorem d_Meaning_spreadStar_102 : decode prog_4_method_27_code 102 = .ok (.return_, 1) := by decide +kernel
theorem d_Meaning_starError_0 : decode prog_4_method_13_code 0 = .ok (.iconst 0, 1) := by decide +kernel
theorem d_Meaning_starError_1 : decode prog_4_method_13_code 1 = .ok (.istore_n 1, 1) := by decide +kernel
theorem d_Meaning_starError_2 : decode prog_4_method_13_code 2 = .ok (.iconst 0, 1) := by decide +kernel
theorem d_Meaning_starError_3 : decode prog_4_method_13_code 3 = .ok (.istore_n 2, 1) := by decide +kernel
theorem d_Meaning_starError_4 : decode prog_4_method_13_code 4 = .ok (.iload_n 2, 1) := by decide +kernel
theorem d_Meaning_starError_5 : decode prog_4_method_13_code 5 = .ok (.aload_n 0, 1) := by decide +kernel
theorem d_Meaning_starError_6 : decode prog_4_method_13_code 6 = .ok (.getfield 28, 3) := by decide +kernel
theorem d_Meaning_starError_9 : decode prog_4_method_13_code 9 = .ok (.iconst 3, 1) := by decide +kernel
theorem d_Meaning_starError_10 : decode prog_4_method_13_code 10 = .ok (.invokevirtual 66, 3) := by decide +kernel
theorem d_Meaning_starError_13 : decode prog_4_method_13_code 13 = .ok (.if_icmp .ge 82, 3) := by decide +kernel
theorem d_Meaning_starError_16 : decode prog_4_method_13_code 16 = .ok (.aload_n 0, 1) := by decide +kernel
theorem d_Meaning_starError_17 : decode prog_4_method_13_code 17 = .ok (.getfield 28, 3) := by decide +kernel
theorem d_Meaning_starError_20 : decode prog_4_method_13_code 20 = .ok (.iconst 3, 1) := by decide +kernel
theorem d_Meaning_starError_21 : decode prog_4_method_13_code 21 = .ok (.iload_n 2, 1) := by decide +kernel
theorem d_Meaning_starError_22 : decode prog_4_method_13_code 22 = .ok (.invokevirtual 70, 3) := by decide +kernel
theorem d_Meaning_starError_25 : decode prog_4_method_13_code 25 = .ok (.istore_n 3, 1) := by decide +kernel
theorem d_Meaning_starError_26 : decode prog_4_method_13_code 26 = .ok (.iconst 0, 1) := by decide +kernel
theorem d_Meaning_starError_27 : decode prog_4_method_13_code 27 = .ok (.istore 4, 2) := by decide +kernel
theorem d_Meaning_starError_29 : decode prog_4_method_13_code 29 = .ok (.iload 4, 2) := by decide +kernel
theorem d_Meaning_starError_31 : decode prog_4_method_13_code 31 = .ok (.aload_n 0, 1) := by decide +kernel
theorem d_Meaning_starError_32 : decode prog_4_method_13_code 32 = .ok (.getfield 9, 3) := by decide +kernel
theorem d_Meaning_starError_35 : decode prog_4_method_13_code 35 = .ok (.iload_n 3, 1) := by decide +kernel
theorem d_Meaning_starError_36 : decode prog_4_method_13_code 36 = .ok (.invokevirtual 172, 3) := by decide +kernel
theorem d_Meaning_starError_39 : decode prog_4_method_13_code 39 = .ok (.if_icmp .ge 50, 3) := by decide +kernel
theorem d_Meaning_starError_42 : decode prog_4_method_13_code 42 = .ok (.aload_n 0, 1) := by decide +kernel
theorem d_Meaning_starError_43 : decode prog_4_method_13_code 43 = .ok (.getfield 9, 3) := by decide +kernel
theorem d_Meaning_starError_46 : decode prog_4_method_13_code 46 = .ok (.aload_n 0, 1) := by decide +kernel
theorem d_Meaning_starError_47 : decode prog_4_method_13_code 47 = .ok (.getfield 32, 3) := by decide +kernel
theorem d_Meaning_starError_50 : decode prog_4_method_13_code 50 = .ok (.getfield 61, 3) := by decide +kernel
theorem d_Meaning_starError_53 : decode prog_4_method_13_code 53 = .ok (.iload_n 1, 1) := by decide +kernel
theorem d_Meaning_starError_54 : decode prog_4_method_13_code 54 = .ok (.invokevirtual 151, 3) := by decide +kernel
theorem d_Meaning_starError_57 : decode prog_4_method_13_code 57 = .ok (.istore 5, 2) := by decide +kernel
theorem d_Meaning_starError_59 : decode prog_4_method_13_code 59 = .ok (.aload_n 0, 1) := by decide +kernel
theorem d_Meaning_starError_60 : decode prog_4_method_13_code 60 = .ok (.getfield 9, 3) := by decide +kernel
theorem d_Meaning_starError_63 : decode prog_4_method_13_code 63 = .ok (.iload_n 3, 1) := by decide +kernel
theorem d_Meaning_starError_64 : decode prog_4_method_13_code 64 = .ok (.iload 4, 2) := by decide +kernel
theorem d_Meaning_starError_66 : decode prog_4_method_13_code 66 = .ok (.invokevirtual 151, 3) := by decide +kernel
theorem d_Meaning_starError_69 : decode prog_4_method_13_code 69 = .ok (.iload 5, 2) := by decide +kernel
theorem d_Meaning_starError_71 : decode prog_4_method_13_code 71 = .ok (.invokestatic 175, 3) := by decide +kernel
theorem d_Meaning_starError_74 : decode prog_4_method_13_code 74 = .ok (.ifCond .ne 6, 3) := by decide +kernel
theorem d_Meaning_starError_77 : decode prog_4_method_13_code 77 = .ok (.bipush 8, 2) := by decide +kernel
theorem d_Meaning_starError_79 : decode prog_4_method_13_code 79 = .ok (.ireturn, 1) := by decide +kernel
theorem d_Meaning_starError_80 : decode prog_4_method_13_code 80 = .ok (.iinc 1 1, 3) := by decide +kernel
theorem d_Meaning_starError_83 : decode prog_4_method_13_code 83 = .ok (.iinc 4 1, 3) := by decide +kernel
theorem d_Meaning_starError_86 : decode prog_4_method_13_code 86 = .ok (.goto (-57), 3) := by decide +kernel
theorem d_Meaning_starError_89 : decode prog_4_method_13_code 89 = .ok (.iinc 2 1, 3) := by decide +kernel
theorem d_Meaning_starError_92 : decode prog_4_method_13_code 92 = .ok (.goto (-88), 3) := by decide +kernel
theorem d_Meaning_starError_95 : decode prog_4_method_13_code 95 = .ok (.iconst 0, 1) := by decide +kernel
theorem d_Meaning_starError_96 : decode prog_4_method_13_code 96 = .ok (.ireturn, 1) := by decide +kernel
theorem d_Meaning_tableCalled_0 : decode prog_4_method_5_code 0 = .ok (.aload_n 0, 1) := by decide +kernel
theorem d_Meaning_tableCalled_1 : decode prog_4_method_5_code 1 = .ok (.getfield 28, 3) := by decide +kernel
theorem d_Meaning_tableCalled_4 : decode prog_4_method_5_code 4 = .ok (.bipush 10, 2) := by decide +kernel
theorem d_Meaning_tableCalled_6 : decode prog_4_method_5_code 6 = .ok (.invokevirtual 66, 3) := by decide +kernel
theorem d_Meaning_tableCalled_9 : decode prog_4_method_5_code 9 = .ok (.istore_n 2, 1) := by decide +kernel
theorem d_Meaning_tableCalled_10 : decode prog_4_method_5_code 10 = .ok (.iconst 0, 1) := by decide +kernel
theorem d_Meaning_tableCalled_11 : decode prog_4_method_5_code 11 = .ok (.istore_n 3, 1) := by decide +kernel
theorem d_Meaning_tableCalled_12 : decode prog_4_method_5_code 12 = .ok (.iload_n 3, 1) := by decide +kernel
theorem d_Meaning_tableCalled_13 : decode prog_4_method_5_code 13 = .ok (.iload_n 2, 1) := by decide +kernel
theorem d_Meaning_tableCalled_14 : decode prog_4_method_5_code 14 = .ok (.if_icmp .ge 31, 3) := by decide +kernel
theorem d_Meaning_tableCalled_17 : decode prog_4_method_5_code 17 = .ok (.aload_n 0, 1) := by decide +kernel
theorem d_Meaning_tableCalled_18 : decode prog_4_method_5_code 18 = .ok (.getfield 21, 3) := by decide +kernel
theorem d_Meaning_tableCalled_21 : decode prog_4_method_5_code 21 = .ok (.aload_n 0, 1) := by decide +kernel
theorem d_Meaning_tableCalled_22 : decode prog_4_method_5_code 22 = .ok (.iload_n 3, 1) := by decide +kernel
theorem d_Meaning_tableCalled_23 : decode prog_4_method_5_code 23 = .ok (.invokevirtual 74, 3) := by decide +kernel
theorem d_Meaning_tableCalled_26 : decode prog_4_method_5_code 26 = .ok (.aload_n 0, 1) := by decide +kernel
theorem d_Meaning_tableCalled_27 : decode prog_4_method_5_code 27 = .ok (.getfield 21, 3) := by decide +kernel
theorem d_Meaning_tableCalled_30 : decode prog_4_method_5_code 30 = .ok (.iload_n 1, 1) := by decide +kernel
theorem d_Meaning_tableCalled_31 : decode prog_4_method_5_code 31 = .ok (.invokevirtual 84, 3) := by decide +kernel
theorem d_Meaning_tableCalled_34 : decode prog_4_method_5_code 34 = .ok (.ifCond .eq 5, 3) := by decide +kernel
theorem d_Meaning_tableCalled_37 : decode prog_4_method_5_code 37 = .ok (.iload_n 3, 1) := by decide +kernel
theorem d_Meaning_tableCalled_38 : decode prog_4_method_5_code 38 = .ok (.ireturn, 1) := by decide +kernel
theorem d_Meaning_tableCalled_39 : decode prog_4_method_5_code 39 = .ok (.iinc 3 1, 3) := by decide +kernel
theorem d_Meaning_tableCalled_42 : decode prog_4_method_5_code 42 = .ok (.goto (-30), 3) := by decide +kernel
theorem d_Meaning_tableCalled_45 : decode prog_4_method_5_code 45 = .ok (.iload_n 2, 1) := by decide +kernel
theorem d_Meaning_tableCalled_46 : decode prog_4_method_5_code 46 = .ok (.ireturn, 1) := by decide +kernel
theorem d_Meaning_tableError_0 : decode prog_4_method_3_code 0 = .ok (.aload_n 0, 1) := by decide +kernel
theorem d_Meaning_tableError_1 : decode prog_4_method_3_code 1 = .ok (.getfield 32, 3) := by decide +kernel
theorem d_Meaning_tableError_4 : decode prog_4_method_3_code 4 = .ok (.getfield 49, 3) := by decide +kernel
theorem d_Meaning_tableError_7 : decode prog_4_method_3_code 7 = .ok (.ifCond .lt 40, 3) := by decide +kernel
theorem d_Meaning_tableError_10 : decode prog_4_method_3_code 10 = .ok (.aload_n 0, 1) := by decide +kernel
theorem d_Meaning_tableError_11 : decode prog_4_method_3_code 11 = .ok (.getfield 32, 3) := by decide +kernel
theorem d_Meaning_tableError_14 : decode prog_4_method_3_code 14 = .ok (.aload_n 0, 1) := by decide +kernel
theorem d_Meaning_tableError_15 : decode prog_4_method_3_code 15 = .ok (.getfield 9, 3) := by decide +kernel
theorem d_Meaning_tableError_18 : decode prog_4_method_3_code 18 = .ok (.aload_n 0, 1) := by decide +kernel
theorem d_Meaning_tableError_19 : decode prog_4_method_3_code 19 = .ok (.getfield 21, 3) := by decide +kernel
theorem d_Meaning_tableError_22 : decode prog_4_method_3_code 22 = .ok (.aload_n 0, 1) := by decide +kernel
theorem d_Meaning_tableError_23 : decode prog_4_method_3_code 23 = .ok (.getfield 32, 3) := by decide +kernel
theorem d_Meaning_tableError_26 : decode prog_4_method_3_code 26 = .ok (.getfield 49, 3) := by decide +kernel
theorem d_Meaning_tableError_29 : decode prog_4_method_3_code 29 = .ok (.invokevirtual 55, 3) := by decide +kernel
theorem d_Meaning_tableError_32 : decode prog_4_method_3_code 32 = .ok (.putfield 61, 3) := by decide +kernel
theorem d_Meaning_tableError_35 : decode prog_4_method_3_code 35 = .ok (.aload_n 0, 1) := by decide +kernel
theorem d_Meaning_tableError_36 : decode prog_4_method_3_code 36 = .ok (.getfield 32, 3) := by decide +kernel
theorem d_Meaning_tableError_39 : decode prog_4_method_3_code 39 = .ok (.getfield 61, 3) := by decide +kernel
theorem d_Meaning_tableError_42 : decode prog_4_method_3_code 42 = .ok (.ifCond .ge 5, 3) := by decide +kernel
theorem d_Meaning_tableError_45 : decode prog_4_method_3_code 45 = .ok (.iconst 4, 1) := by decide +kernel
theorem d_Meaning_tableError_46 : decode prog_4_method_3_code 46 = .ok (.ireturn, 1) := by decide +kernel
theorem d_Meaning_tableError_47 : decode prog_4_method_3_code 47 = .ok (.iconst 0, 1) := by decide +kernel
theorem d_Meaning_tableError_48 : decode prog_4_method_3_code 48 = .ok (.istore_n 1, 1) := by decide +kernel
theorem d_Meaning_tableError_49 : decode prog_4_method_3_code 49 = .ok (.iload_n 1, 1) := by decide +kernel
theorem d_Meaning_tableError_50 : decode prog_4_method_3_code 50 = .ok (.aload_n 0, 1) := by decide +kernel
theorem d_Meaning_tableError_51 : decode prog_4_method_3_code 51 = .ok (.getfield 28, 3) := by decide +kernel
theorem d_Meaning_tableError_54 : decode prog_4_method_3_code 54 = .ok (.bipush 10, 2) := by decide +kernel
theorem d_Meaning_tableError_56 : decode prog_4_method_3_code 56 = .ok (.invokevirtual 66, 3) := by decide +kernel
theorem d_Meaning_tableError_59 : decode prog_4_method_3_code 59 = .ok (.if_icmp .ge 61, 3) := by decide +kernel
theorem d_Meaning_tableError_62 : decode prog_4_method_3_code 62 = .ok (.aload_n 0, 1) := by decide +kernel
theorem d_Meaning_tableError_63 : decode prog_4_method_3_code 63 = .ok (.getfield 9, 3) := by decide +kernel
theorem d_Meaning_tableError_66 : decode prog_4_method_3_code 66 = .ok (.aload_n 0, 1) := by decide +kernel
theorem d_Meaning_tableError_67 : decode prog_4_method_3_code 67 = .ok (.getfield 21, 3) := by decide +kernel
theorem d_Meaning_tableError_70 : decode prog_4_method_3_code 70 = .ok (.aload_n 0, 1) := by decide +kernel
theorem d_Meaning_tableError_71 : decode prog_4_method_3_code 71 = .ok (.getfield 28, 3) := by decide +kernel
theorem d_Meaning_tableError_74 : decode prog_4_method_3_code 74 = .ok (.bipush 10, 2) := by decide +kernel
theorem d_Meaning_tableError_76 : decode prog_4_method_3_code 76 = .ok (.iload_n 1, 1) := by decide +kernel
theorem d_Meaning_tableError_77 : decode prog_4_method_3_code 77 = .ok (.invokevirtual 70, 3) := by decide +kernel
theorem d_Meaning_tableError_80 : decode prog_4_method_3_code 80 = .ok (.invokevirtual 55, 3) := by decide +kernel
theorem d_Meaning_tableError_83 : decode prog_4_method_3_code 83 = .ok (.istore_n 2, 1) := by decide +kernel
theorem d_Meaning_tableError_84 : decode prog_4_method_3_code 84 = .ok (.iload_n 2, 1) := by decide +kernel
theorem d_Meaning_tableError_85 : decode prog_4_method_3_code 85 = .ok (.ifCond .ge 5, 3) := by decide +kernel
theorem d_Meaning_tableError_88 : decode prog_4_method_3_code 88 = .ok (.iconst 4, 1) := by decide +kernel
theorem d_Meaning_tableError_89 : decode prog_4_method_3_code 89 = .ok (.ireturn, 1) := by decide +kernel
theorem d_Meaning_tableError_90 : decode prog_4_method_3_code 90 = .ok (.aload_n 0, 1) := by decide +kernel
theorem d_Meaning_tableError_91 : decode prog_4_method_3_code 91 = .ok (.aload_n 0, 1) := by decide +kernel
theorem d_Meaning_tableError_92 : decode prog_4_method_3_code 92 = .ok (.iload_n 1, 1) := by decide +kernel
theorem d_Meaning_tableError_93 : decode prog_4_method_3_code 93 = .ok (.invokevirtual 74, 3) := by decide +kernel
theorem d_Meaning_tableError_96 : decode prog_4_method_3_code 96 = .ok (.invokevirtual 77, 3) := by decide +kernel
theorem d_Meaning_tableError_99 : decode prog_4_method_3_code 99 = .ok (.iload_n 1, 1) := by decide +kernel
theorem d_Meaning_tableError_100 : decode prog_4_method_3_code 100 = .ok (.if_icmp .ge 5, 3) := by decide +kernel
theorem d_Meaning_tableError_103 : decode prog_4_method_3_code 103 = .ok (.iconst 5, 1) := by decide +kernel
theorem d_Meaning_tableError_104 : decode prog_4_method_3_code 104 = .ok (.ireturn, 1) := by decide +kernel
theorem d_Meaning_tableError_105 : decode prog_4_method_3_code 105 = .ok (.aload_n 0, 1) := by decide +kernel
theorem d_Meaning_tableError_106 : decode prog_4_method_3_code 106 = .ok (.getfield 28, 3) := by decide +kernel
theorem d_Meaning_tableError_109 : decode prog_4_method_3_code 109 = .ok (.iconst 3, 1) := by decide +kernel
theorem d_Meaning_tableError_110 : decode prog_4_method_3_code 110 = .ok (.iload_n 2, 1) := by decide +kernel
theorem d_Meaning_tableError_111 : decode prog_4_method_3_code 111 = .ok (.invokevirtual 80, 3) := by decide +kernel
theorem d_Meaning_tableError_114 : decode prog_4_method_3_code 114 = .ok (.iinc 1 1, 3) := by decide +kernel
theorem d_Meaning_tableError_117 : decode prog_4_method_3_code 117 = .ok (.goto (-68), 3) := by decide +kernel
theorem d_Meaning_tableError_120 : decode prog_4_method_3_code 120 = .ok (.iconst 0, 1) := by decide +kernel
theorem d_Meaning_tableError_121 : decode prog_4_method_3_code 121 = .ok (.ireturn, 1) := by decide +kernel
theorem d_Meaning_tellColumns_0 : decode prog_4_method_11_code 0 = .ok (.iload_n 2, 1) := by decide +kernel
theorem d_Meaning_tellColumns_1 : decode prog_4_method_11_code 1 = .ok (.istore 4, 2) := by decide +kernel
theorem d_Meaning_tellColumns_3 : decode prog_4_method_11_code 3 = .ok (.iload 4, 2) := by decide +kernel
theorem d_Meaning_tellColumns_5 : decode prog_4_method_11_code 5 = .ok (.iload_n 3, 1) := by decide +kernel
theorem d_Meaning_tellColumns_6 : decode prog_4_method_11_code 6 = .ok (.if_icmp .ge 44, 3) := by decide +kernel
theorem d_Meaning_tellColumns_9 : decode prog_4_method_11_code 9 = .ok (.aload_n 0, 1) := by decide +kernel
theorem d_Meaning_tellColumns_10 : decode prog_4_method_11_code 10 = .ok (.getfield 24, 3) := by decide +kernel
theorem d_Meaning_tellColumns_13 : decode prog_4_method_11_code 13 = .ok (.aload_n 0, 1) := by decide +kernel
theorem d_Meaning_tellColumns_14 : decode prog_4_method_11_code 14 = .ok (.getfield 28, 3) := by decide +kernel
theorem d_Meaning_tellColumns_17 : decode prog_4_method_11_code 17 = .ok (.iload_n 1, 1) := by decide +kernel
theorem d_Meaning_tellColumns_18 : decode prog_4_method_11_code 18 = .ok (.iload 4, 2) := by decide +kernel
theorem d_Meaning_tellColumns_20 : decode prog_4_method_11_code 20 = .ok (.invokevirtual 70, 3) := by decide +kernel
theorem d_Meaning_tellColumns_23 : decode prog_4_method_11_code 23 = .ok (.aload_n 0, 1) := by decide +kernel
theorem d_Meaning_tellColumns_24 : decode prog_4_method_11_code 24 = .ok (.getfield 9, 3) := by decide +kernel
theorem d_Meaning_tellColumns_27 : decode prog_4_method_11_code 27 = .ok (.aload_n 0, 1) := by decide +kernel
theorem d_Meaning_tellColumns_28 : decode prog_4_method_11_code 28 = .ok (.getfield 32, 3) := by decide +kernel
theorem d_Meaning_tellColumns_31 : decode prog_4_method_11_code 31 = .ok (.getfield 61, 3) := by decide +kernel
theorem d_Meaning_tellColumns_34 : decode prog_4_method_11_code 34 = .ok (.iload 4, 2) := by decide +kernel
theorem d_Meaning_tellColumns_36 : decode prog_4_method_11_code 36 = .ok (.iload_n 2, 1) := by decide +kernel
theorem d_Meaning_tellColumns_37 : decode prog_4_method_11_code 37 = .ok (.isub, 1) := by decide +kernel
theorem d_Meaning_tellColumns_38 : decode prog_4_method_11_code 38 = .ok (.invokevirtual 151, 3) := by decide +kernel
theorem d_Meaning_tellColumns_41 : decode prog_4_method_11_code 41 = .ok (.invokevirtual 160, 3) := by decide +kernel
theorem d_Meaning_tellColumns_44 : decode prog_4_method_11_code 44 = .ok (.iinc 4 1, 3) := by decide +kernel
theorem d_Meaning_tellColumns_47 : decode prog_4_method_11_code 47 = .ok (.goto (-44), 3) := by decide +kernel
theorem d_Meaning_tellColumns_50 : decode prog_4_method_11_code 50 = .ok (.return_, 1) := by decide +kernel
theorem d_Meaning_tellNeeds_0 : decode prog_4_method_10_code 0 = .ok (.aload_n 0, 1) := by decide +kernel
theorem d_Meaning_tellNeeds_1 : decode prog_4_method_10_code 1 = .ok (.getfield 24, 3) := by decide +kernel
theorem d_Meaning_tellNeeds_4 : decode prog_4_method_10_code 4 = .ok (.aload_n 0, 1) := by decide +kernel
theorem d_Meaning_tellNeeds_5 : decode prog_4_method_10_code 5 = .ok (.getfield 32, 3) := by decide +kernel
theorem d_Meaning_tellNeeds_8 : decode prog_4_method_10_code 8 = .ok (.getfield 157, 3) := by decide +kernel
theorem d_Meaning_tellNeeds_11 : decode prog_4_method_10_code 11 = .ok (.iconst 3, 1) := by decide +kernel
theorem d_Meaning_tellNeeds_12 : decode prog_4_method_10_code 12 = .ok (.invokevirtual 160, 3) := by decide +kernel
theorem d_Meaning_tellNeeds_15 : decode prog_4_method_10_code 15 = .ok (.iconst 0, 1) := by decide +kernel
theorem d_Meaning_tellNeeds_16 : decode prog_4_method_10_code 16 = .ok (.istore_n 1, 1) := by decide +kernel
theorem d_Meaning_tellNeeds_17 : decode prog_4_method_10_code 17 = .ok (.iload_n 1, 1) := by decide +kernel
theorem d_Meaning_tellNeeds_18 : decode prog_4_method_10_code 18 = .ok (.aload_n 0, 1) := by decide +kernel
theorem d_Meaning_tellNeeds_19 : decode prog_4_method_10_code 19 = .ok (.getfield 28, 3) := by decide +kernel
theorem d_Meaning_tellNeeds_22 : decode prog_4_method_10_code 22 = .ok (.iconst 5, 1) := by decide +kernel
theorem d_Meaning_tellNeeds_23 : decode prog_4_method_10_code 23 = .ok (.invokevirtual 66, 3) := by decide +kernel
theorem d_Meaning_tellNeeds_26 : decode prog_4_method_10_code 26 = .ok (.if_icmp .ge 50, 3) := by decide +kernel
theorem d_Meaning_tellNeeds_29 : decode prog_4_method_10_code 29 = .ok (.aload_n 0, 1) := by decide +kernel
theorem d_Meaning_tellNeeds_30 : decode prog_4_method_10_code 30 = .ok (.getfield 28, 3) := by decide +kernel
theorem d_Meaning_tellNeeds_33 : decode prog_4_method_10_code 33 = .ok (.iconst 4, 1) := by decide +kernel
theorem d_Meaning_tellNeeds_34 : decode prog_4_method_10_code 34 = .ok (.iload_n 1, 1) := by decide +kernel
theorem d_Meaning_tellNeeds_35 : decode prog_4_method_10_code 35 = .ok (.invokevirtual 70, 3) := by decide +kernel
theorem d_Meaning_tellNeeds_38 : decode prog_4_method_10_code 38 = .ok (.istore_n 2, 1) := by decide +kernel
theorem d_Meaning_tellNeeds_39 : decode prog_4_method_10_code 39 = .ok (.aload_n 0, 1) := by decide +kernel
theorem d_Meaning_tellNeeds_40 : decode prog_4_method_10_code 40 = .ok (.getfield 24, 3) := by decide +kernel
theorem d_Meaning_tellNeeds_43 : decode prog_4_method_10_code 43 = .ok (.aload_n 0, 1) := by decide +kernel
theorem d_Meaning_tellNeeds_44 : decode prog_4_method_10_code 44 = .ok (.getfield 28, 3) := by decide +kernel
theorem d_Meaning_tellNeeds_47 : decode prog_4_method_10_code 47 = .ok (.iconst 5, 1) := by decide +kernel
theorem d_Meaning_tellNeeds_48 : decode prog_4_method_10_code 48 = .ok (.iload_n 1, 1) := by decide +kernel
theorem d_Meaning_tellNeeds_49 : decode prog_4_method_10_code 49 = .ok (.invokevirtual 70, 3) := by decide +kernel
theorem d_Meaning_tellNeeds_52 : decode prog_4_method_10_code 52 = .ok (.aload_n 0, 1) := by decide +kernel
theorem d_Meaning_tellNeeds_53 : decode prog_4_method_10_code 53 = .ok (.getfield 9, 3) := by decide +kernel
theorem d_Meaning_tellNeeds_56 : decode prog_4_method_10_code 56 = .ok (.aload_n 0, 1) := by decide +kernel
theorem d_Meaning_tellNeeds_57 : decode prog_4_method_10_code 57 = .ok (.getfield 32, 3) := by decide +kernel
theorem d_Meaning_tellNeeds_60 : decode prog_4_method_10_code 60 = .ok (.getfield 61, 3) := by decide +kernel
theorem d_Meaning_tellNeeds_63 : decode prog_4_method_10_code 63 = .ok (.iload_n 2, 1) := by decide +kernel
theorem d_Meaning_tellNeeds_64 : decode prog_4_method_10_code 64 = .ok (.invokevirtual 151, 3) := by decide +kernel
theorem d_Meaning_tellNeeds_67 : decode prog_4_method_10_code 67 = .ok (.invokevirtual 160, 3) := by decide +kernel
theorem d_Meaning_tellNeeds_70 : decode prog_4_method_10_code 70 = .ok (.iinc 1 1, 3) := by decide +kernel
theorem d_Meaning_tellNeeds_73 : decode prog_4_method_10_code 73 = .ok (.goto (-56), 3) := by decide +kernel
theorem d_Meaning_tellNeeds_76 : decode prog_4_method_10_code 76 = .ok (.aload_n 0, 1) := by decide +kernel
theorem d_Meaning_tellNeeds_77 : decode prog_4_method_10_code 77 = .ok (.getfield 32, 3) := by decide +kernel
theorem d_Meaning_tellNeeds_80 : decode prog_4_method_10_code 80 = .ok (.getfield 105, 3) := by decide +kernel
theorem d_Meaning_tellNeeds_83 : decode prog_4_method_10_code 83 = .ok (.iconst 5, 1) := by decide +kernel
theorem d_Meaning_tellNeeds_84 : decode prog_4_method_10_code 84 = .ok (.if_icmp .ne 17, 3) := by decide +kernel
theorem d_Meaning_tellNeeds_87 : decode prog_4_method_10_code 87 = .ok (.aload_n 0, 1) := by decide +kernel
theorem d_Meaning_tellNeeds_88 : decode prog_4_method_10_code 88 = .ok (.iconst 0, 1) := by decide +kernel
theorem d_Meaning_tellNeeds_89 : decode prog_4_method_10_code 89 = .ok (.iconst 0, 1) := by decide +kernel
theorem d_Meaning_tellNeeds_90 : decode prog_4_method_10_code 90 = .ok (.aload_n 0, 1) := by decide +kernel
theorem d_Meaning_tellNeeds_91 : decode prog_4_method_10_code 91 = .ok (.getfield 28, 3) := by decide +kernel
theorem d_Meaning_tellNeeds_94 : decode prog_4_method_10_code 94 = .ok (.iconst 0, 1) := by decide +kernel
theorem d_Meaning_tellNeeds_95 : decode prog_4_method_10_code 95 = .ok (.invokevirtual 66, 3) := by decide +kernel
theorem d_Meaning_tellNeeds_98 : decode prog_4_method_10_code 98 = .ok (.invokevirtual 163, 3) := by decide +kernel
theorem d_Meaning_tellNeeds_101 : decode prog_4_method_10_code 101 = .ok (.iconst 0, 1) := by decide +kernel
theorem d_Meaning_tellNeeds_102 : decode prog_4_method_10_code 102 = .ok (.istore_n 1, 1) := by decide +kernel
theorem d_Meaning_tellNeeds_103 : decode prog_4_method_10_code 103 = .ok (.iconst 0, 1) := by decide +kernel
theorem d_Meaning_tellNeeds_104 : decode prog_4_method_10_code 104 = .ok (.istore_n 2, 1) := by decide +kernel
theorem d_Meaning_tellNeeds_105 : decode prog_4_method_10_code 105 = .ok (.iload_n 2, 1) := by decide +kernel
theorem d_Meaning_tellNeeds_106 : decode prog_4_method_10_code 106 = .ok (.aload_n 0, 1) := by decide +kernel
theorem d_Meaning_tellNeeds_107 : decode prog_4_method_10_code 107 = .ok (.getfield 28, 3) := by decide +kernel
theorem d_Meaning_tellNeeds_110 : decode prog_4_method_10_code 110 = .ok (.bipush 12, 2) := by decide +kernel
theorem d_Meaning_tellNeeds_112 : decode prog_4_method_10_code 112 = .ok (.invokevirtual 66, 3) := by decide +kernel
theorem d_Meaning_tellNeeds_115 : decode prog_4_method_10_code 115 = .ok (.if_icmp .ge 30, 3) := by decide +kernel
theorem d_Meaning_tellNeeds_118 : decode prog_4_method_10_code 118 = .ok (.aload_n 0, 1) := by decide +kernel
theorem d_Meaning_tellNeeds_119 : decode prog_4_method_10_code 119 = .ok (.getfield 28, 3) := by decide +kernel
theorem d_Meaning_tellNeeds_122 : decode prog_4_method_10_code 122 = .ok (.bipush 12, 2) := by decide +kernel
theorem d_Meaning_tellNeeds_124 : decode prog_4_method_10_code 124 = .ok (.iload_n 2, 1) := by decide +kernel
theorem d_Meaning_tellNeeds_125 : decode prog_4_method_10_code 125 = .ok (.invokevirtual 70, 3) := by decide +kernel
theorem d_Meaning_tellNeeds_128 : decode prog_4_method_10_code 128 = .ok (.istore_n 3, 1) := by decide +kernel
theorem d_Meaning_tellNeeds_129 : decode prog_4_method_10_code 129 = .ok (.aload_n 0, 1) := by decide +kernel
theorem d_Meaning_tellNeeds_130 : decode prog_4_method_10_code 130 = .ok (.bipush 6, 2) := by decide +kernel
theorem d_Meaning_tellNeeds_132 : decode prog_4_method_10_code 132 = .ok (.iload_n 1, 1) := by decide +kernel
theorem d_Meaning_tellNeeds_133 : decode prog_4_method_10_code 133 = .ok (.iload_n 3, 1) := by decide +kernel
theorem d_Meaning_tellNeeds_134 : decode prog_4_method_10_code 134 = .ok (.invokevirtual 163, 3) := by decide +kernel
theorem d_Meaning_tellNeeds_137 : decode prog_4_method_10_code 137 = .ok (.iload_n 3, 1) := by decide +kernel
theorem d_Meaning_tellNeeds_138 : decode prog_4_method_10_code 138 = .ok (.istore_n 1, 1) := by decide +kernel
theorem d_Meaning_tellNeeds_139 : decode prog_4_method_10_code 139 = .ok (.iinc 2 1, 3) := by decide +kernel
theorem d_Meaning_tellNeeds_142 : decode prog_4_method_10_code 142 = .ok (.goto (-37), 3) := by decide +kernel
theorem d_Meaning_tellNeeds_145 : decode prog_4_method_10_code 145 = .ok (.return_, 1) := by decide +kernel
theorem d_Meaning_typeAhead_0 : decode prog_4_method_24_code 0 = .ok (.iload_n 1, 1) := by decide +kernel
theorem d_Meaning_typeAhead_1 : decode prog_4_method_24_code 1 = .ok (.istore_n 2, 1) := by decide +kernel
theorem d_Meaning_typeAhead_2 : decode prog_4_method_24_code 2 = .ok (.aload_n 0, 1) := by decide +kernel
theorem d_Meaning_typeAhead_3 : decode prog_4_method_24_code 3 = .ok (.getfield 24, 3) := by decide +kernel
theorem d_Meaning_typeAhead_6 : decode prog_4_method_24_code 6 = .ok (.iload_n 2, 1) := by decide +kernel
theorem d_Meaning_typeAhead_7 : decode prog_4_method_24_code 7 = .ok (.invokevirtual 128, 3) := by decide +kernel
theorem d_Meaning_typeAhead_10 : decode prog_4_method_24_code 10 = .ok (.istore_n 3, 1) := by decide +kernel
theorem d_Meaning_typeAhead_11 : decode prog_4_method_24_code 11 = .ok (.iconst 0, 1) := by decide +kernel
theorem d_Meaning_typeAhead_12 : decode prog_4_method_24_code 12 = .ok (.istore 4, 2) := by decide +kernel
theorem d_Meaning_typeAhead_14 : decode prog_4_method_24_code 14 = .ok (.iload 4, 2) := by decide +kernel
theorem d_Meaning_typeAhead_16 : decode prog_4_method_24_code 16 = .ok (.sipush 200, 3) := by decide +kernel
theorem d_Meaning_typeAhead_19 : decode prog_4_method_24_code 19 = .ok (.if_icmp .ge 39, 3) := by decide +kernel
theorem d_Meaning_typeAhead_22 : decode prog_4_method_24_code 22 = .ok (.iload_n 3, 1) := by decide +kernel
theorem d_Meaning_typeAhead_23 : decode prog_4_method_24_code 23 = .ok (.bipush 8, 2) := by decide +kernel
theorem d_Meaning_typeAhead_25 : decode prog_4_method_24_code 25 = .ok (.if_icmp .eq 9, 3) := by decide +kernel
theorem d_Meaning_typeAhead_28 : decode prog_4_method_24_code 28 = .ok (.iload_n 3, 1) := by decide +kernel
theorem d_Meaning_typeAhead_29 : decode prog_4_method_24_code 29 = .ok (.bipush 9, 2) := by decide +kernel
theorem d_Meaning_typeAhead_31 : decode prog_4_method_24_code 31 = .ok (.if_icmp .ne 27, 3) := by decide +kernel
theorem d_Meaning_typeAhead_34 : decode prog_4_method_24_code 34 = .ok (.aload_n 0, 1) := by decide +kernel
theorem d_Meaning_typeAhead_35 : decode prog_4_method_24_code 35 = .ok (.getfield 24, 3) := by decide +kernel
theorem d_Meaning_typeAhead_38 : decode prog_4_method_24_code 38 = .ok (.iload_n 2, 1) := by decide +kernel
theorem d_Meaning_typeAhead_39 : decode prog_4_method_24_code 39 = .ok (.invokevirtual 198, 3) := by decide +kernel
theorem d_Meaning_typeAhead_42 : decode prog_4_method_24_code 42 = .ok (.istore_n 2, 1) := by decide +kernel
theorem d_Meaning_typeAhead_43 : decode prog_4_method_24_code 43 = .ok (.aload_n 0, 1) := by decide +kernel
theorem d_Meaning_typeAhead_44 : decode prog_4_method_24_code 44 = .ok (.getfield 24, 3) := by decide +kernel
theorem d_Meaning_typeAhead_47 : decode prog_4_method_24_code 47 = .ok (.iload_n 2, 1) := by decide +kernel
theorem d_Meaning_typeAhead_48 : decode prog_4_method_24_code 48 = .ok (.invokevirtual 128, 3) := by decide +kernel
theorem d_Meaning_typeAhead_51 : decode prog_4_method_24_code 51 = .ok (.istore_n 3, 1) := by decide +kernel
theorem d_Meaning_typeAhead_52 : decode prog_4_method_24_code 52 = .ok (.iinc 4 1, 3) := by decide +kernel
theorem d_Meaning_typeAhead_55 : decode prog_4_method_24_code 55 = .ok (.goto (-41), 3) := by decide +kernel
theorem d_Meaning_typeAhead_58 : decode prog_4_method_24_code 58 = .ok (.iload_n 3, 1) := by decide +kernel
theorem d_Meaning_typeAhead_59 : decode prog_4_method_24_code 59 = .ok (.iconst 4, 1) := by decide +kernel
theorem d_Meaning_typeAhead_60 : decode prog_4_method_24_code 60 = .ok (.if_icmp .ne 12, 3) := by decide +kernel
theorem d_Meaning_typeAhead_63 : decode prog_4_method_24_code 63 = .ok (.aload_n 0, 1) := by decide +kernel
theorem d_Meaning_typeAhead_64 : decode prog_4_method_24_code 64 = .ok (.getfield 24, 3) := by decide +kernel
theorem d_Meaning_typeAhead_67 : decode prog_4_method_24_code 67 = .ok (.iload_n 2, 1) := by decide +kernel
theorem d_Meaning_typeAhead_68 : decode prog_4_method_24_code 68 = .ok (.invokevirtual 201, 3) := by decide +kernel
theorem d_Meaning_typeAhead_71 : decode prog_4_method_24_code 71 = .ok (.ireturn, 1) := by decide +kernel
theorem d_Meaning_typeAhead_72 : decode prog_4_method_24_code 72 = .ok (.iload_n 3, 1) := by decide +kernel
theorem d_Meaning_typeAhead_73 : decode prog_4_method_24_code 73 = .ok (.bipush 28, 2) := by decide +kernel
theorem d_Meaning_typeAhead_75 : decode prog_4_method_24_code 75 = .ok (.if_icmp .ne 27, 3) := by decide +kernel
theorem d_Meaning_typeAhead_78 : decode prog_4_method_24_code 78 = .ok (.aload_n 0, 1) := by decide +kernel
theorem d_Meaning_typeAhead_79 : decode prog_4_method_24_code 79 = .ok (.getfield 28, 3) := by decide +kernel
theorem d_Meaning_typeAhead_82 : decode prog_4_method_24_code 82 = .ok (.bipush 8, 2) := by decide +kernel
theorem d_Meaning_typeAhead_84 : decode prog_4_method_24_code 84 = .ok (.aload_n 0, 1) := by decide +kernel
theorem d_Meaning_typeAhead_85 : decode prog_4_method_24_code 85 = .ok (.getfield 24, 3) := by decide +kernel
theorem d_Meaning_typeAhead_88 : decode prog_4_method_24_code 88 = .ok (.iload_n 2, 1) := by decide +kernel
theorem d_Meaning_typeAhead_89 : decode prog_4_method_24_code 89 = .ok (.invokevirtual 198, 3) := by decide +kernel
theorem d_Meaning_typeAhead_92 : decode prog_4_method_24_code 92 = .ok (.iconst 1, 1) := by decide +kernel
theorem d_Meaning_typeAhead_93 : decode prog_4_method_24_code 93 = .ok (.isub, 1) := by decide +kernel
theorem d_Meaning_typeAhead_94 : decode prog_4_method_24_code 94 = .ok (.invokevirtual 70, 3) := by decide +kernel
theorem d_Meaning_typeAhead_97 : decode prog_4_method_24_code 97 = .ok (.iconst 0, 1) := by decide +kernel
theorem d_Meaning_typeAhead_98 : decode prog_4_method_24_code 98 = .ok (.invokestatic 234, 3) := by decide +kernel
theorem d_Meaning_typeAhead_101 : decode prog_4_method_24_code 101 = .ok (.ireturn, 1) := by decide +kernel
theorem d_Meaning_typeAhead_102 : decode prog_4_method_24_code 102 = .ok (.iload_n 3, 1) := by decide +kernel
theorem d_Meaning_typeAhead_103 : decode prog_4_method_24_code 103 = .ok (.invokestatic 213, 3) := by decide +kernel
theorem d_Meaning_typeAhead_106 : decode prog_4_method_24_code 106 = .ok (.ireturn, 1) := by decide +kernel
theorem d_Meaning_typeByKind_0 : decode prog_4_method_20_code 0 = .ok (.iload_n 0, 1) := by decide +kernel
theorem d_Meaning_typeByKind_1 : decode prog_4_method_20_code 1 = .ok (.ifCond .lt 11, 3) := by decide +kernel
theorem d_Meaning_typeByKind_4 : decode prog_4_method_20_code 4 = .ok (.iload_n 0, 1) := by decide +kernel
theorem d_Meaning_typeByKind_5 : decode prog_4_method_20_code 5 = .ok (.getstatic 216, 3) := by decide +kernel
theorem d_Meaning_typeByKind_8 : decode prog_4_method_20_code 8 = .ok (.arraylength, 1) := by decide +kernel
theorem d_Meaning_typeByKind_9 : decode prog_4_method_20_code 9 = .ok (.if_icmp .lt 7, 3) := by decide +kernel
theorem d_Meaning_typeByKind_12 : decode prog_4_method_20_code 12 = .ok (.iconst 0, 1) := by decide +kernel
theorem d_Meaning_typeByKind_13 : decode prog_4_method_20_code 13 = .ok (.goto 8, 3) := by decide +kernel
theorem d_Meaning_typeByKind_16 : decode prog_4_method_20_code 16 = .ok (.getstatic 216, 3) := by decide +kernel
theorem d_Meaning_typeByKind_19 : decode prog_4_method_20_code 19 = .ok (.iload_n 0, 1) := by decide +kernel
theorem d_Meaning_typeByKind_20 : decode prog_4_method_20_code 20 = .ok (.iaload, 1) := by decide +kernel
theorem d_Meaning_typeByKind_21 : decode prog_4_method_20_code 21 = .ok (.ireturn, 1) := by decide +kernel
theorem d_Meaning_typeError_0 : decode prog_4_method_6_code 0 = .ok (.aload_n 0, 1) := by decide +kernel
theorem d_Meaning_typeError_1 : decode prog_4_method_6_code 1 = .ok (.invokevirtual 90, 3) := by decide +kernel
theorem d_Meaning_typeError_4 : decode prog_4_method_6_code 4 = .ok (.aload_n 0, 1) := by decide +kernel
theorem d_Meaning_typeError_5 : decode prog_4_method_6_code 5 = .ok (.invokevirtual 93, 3) := by decide +kernel
theorem d_Meaning_typeError_8 : decode prog_4_method_6_code 8 = .ok (.aload_n 0, 1) := by decide +kernel
theorem d_Meaning_typeError_9 : decode prog_4_method_6_code 9 = .ok (.invokevirtual 96, 3) := by decide +kernel
theorem d_Meaning_typeError_12 : decode prog_4_method_6_code 12 = .ok (.aload_n 0, 1) := by decide +kernel
theorem d_Meaning_typeError_13 : decode prog_4_method_6_code 13 = .ok (.invokevirtual 99, 3) := by decide +kernel
theorem d_Meaning_typeError_16 : decode prog_4_method_6_code 16 = .ok (.aload_n 0, 1) := by decide +kernel
theorem d_Meaning_typeError_17 : decode prog_4_method_6_code 17 = .ok (.iconst 0, 1) := by decide +kernel
theorem d_Meaning_typeError_18 : decode prog_4_method_6_code 18 = .ok (.putfield 102, 3) := by decide +kernel
theorem d_Meaning_typeError_21 : decode prog_4_method_6_code 21 = .ok (.iconst 0, 1) := by decide +kernel
theorem d_Meaning_typeError_22 : decode prog_4_method_6_code 22 = .ok (.istore_n 1, 1) := by decide +kernel
theorem d_Meaning_typeError_23 : decode prog_4_method_6_code 23 = .ok (.aload_n 0, 1) := by decide +kernel
theorem d_Meaning_typeError_24 : decode prog_4_method_6_code 24 = .ok (.getfield 32, 3) := by decide +kernel
theorem d_Meaning_typeError_27 : decode prog_4_method_6_code 27 = .ok (.getfield 105, 3) := by decide +kernel
theorem d_Meaning_typeError_30 : decode prog_4_method_6_code 30 = .ok (.iconst 2, 1) := by decide +kernel
theorem d_Meaning_typeError_31 : decode prog_4_method_6_code 31 = .ok (.if_icmp .ne 11, 3) := by decide +kernel
theorem d_Meaning_typeError_34 : decode prog_4_method_6_code 34 = .ok (.aload_n 0, 1) := by decide +kernel
theorem d_Meaning_typeError_35 : decode prog_4_method_6_code 35 = .ok (.invokevirtual 108, 3) := by decide +kernel
theorem d_Meaning_typeError_38 : decode prog_4_method_6_code 38 = .ok (.istore_n 1, 1) := by decide +kernel
theorem d_Meaning_typeError_39 : decode prog_4_method_6_code 39 = .ok (.goto 49, 3) := by decide +kernel
theorem d_Meaning_typeError_42 : decode prog_4_method_6_code 42 = .ok (.aload_n 0, 1) := by decide +kernel
theorem d_Meaning_typeError_43 : decode prog_4_method_6_code 43 = .ok (.getfield 32, 3) := by decide +kernel
theorem d_Meaning_typeError_46 : decode prog_4_method_6_code 46 = .ok (.getfield 105, 3) := by decide +kernel
theorem d_Meaning_typeError_49 : decode prog_4_method_6_code 49 = .ok (.iconst 5, 1) := by decide +kernel
theorem d_Meaning_typeError_50 : decode prog_4_method_6_code 50 = .ok (.if_icmp .ne 21, 3) := by decide +kernel
theorem d_Meaning_typeError_53 : decode prog_4_method_6_code 53 = .ok (.aload_n 0, 1) := by decide +kernel
theorem d_Meaning_typeError_54 : decode prog_4_method_6_code 54 = .ok (.getfield 32, 3) := by decide +kernel
theorem d_Meaning_typeError_57 : decode prog_4_method_6_code 57 = .ok (.getfield 111, 3) := by decide +kernel
theorem d_Meaning_typeError_60 : decode prog_4_method_6_code 60 = .ok (.ifCond .eq 11, 3) := by decide +kernel
theorem d_Meaning_typeError_63 : decode prog_4_method_6_code 63 = .ok (.aload_n 0, 1) := by decide +kernel
theorem d_Meaning_typeError_64 : decode prog_4_method_6_code 64 = .ok (.invokevirtual 115, 3) := by decide +kernel
theorem d_Meaning_typeError_67 : decode prog_4_method_6_code 67 = .ok (.istore_n 1, 1) := by decide +kernel
theorem d_Meaning_typeError_68 : decode prog_4_method_6_code 68 = .ok (.goto 20, 3) := by decide +kernel
theorem d_Meaning_typeError_71 : decode prog_4_method_6_code 71 = .ok (.aload_n 0, 1) := by decide +kernel
theorem d_Meaning_typeError_72 : decode prog_4_method_6_code 72 = .ok (.getfield 32, 3) := by decide +kernel
theorem d_Meaning_typeError_75 : decode prog_4_method_6_code 75 = .ok (.getfield 105, 3) := by decide +kernel
theorem d_Meaning_typeError_78 : decode prog_4_method_6_code 78 = .ok (.bipush 6, 2) := by decide +kernel
theorem d_Meaning_typeError_80 : decode prog_4_method_6_code 80 = .ok (.if_icmp .ne 8, 3) := by decide +kernel
theorem d_Meaning_typeError_83 : decode prog_4_method_6_code 83 = .ok (.aload_n 0, 1) := by decide +kernel
theorem d_Meaning_typeError_84 : decode prog_4_method_6_code 84 = .ok (.invokevirtual 118, 3) := by decide +kernel
theorem d_Meaning_typeError_87 : decode prog_4_method_6_code 87 = .ok (.istore_n 1, 1) := by decide +kernel
theorem d_Meaning_typeError_88 : decode prog_4_method_6_code 88 = .ok (.iload_n 1, 1) := by decide +kernel
theorem d_Meaning_typeError_89 : decode prog_4_method_6_code 89 = .ok (.ifCond .ne 17, 3) := by decide +kernel
theorem d_Meaning_typeError_92 : decode prog_4_method_6_code 92 = .ok (.aload_n 0, 1) := by decide +kernel
theorem d_Meaning_typeError_93 : decode prog_4_method_6_code 93 = .ok (.aload_n 0, 1) := by decide +kernel
theorem d_Meaning_typeError_94 : decode prog_4_method_6_code 94 = .ok (.getfield 24, 3) := by decide +kernel
theorem d_Meaning_typeError_97 : decode prog_4_method_6_code 97 = .ok (.invokevirtual 121, 3) := by decide +kernel
theorem d_Meaning_typeError_100 : decode prog_4_method_6_code 100 = .ok (.invokevirtual 125, 3) := by decide +kernel
theorem d_Meaning_typeError_103 : decode prog_4_method_6_code 103 = .ok (.goto 4, 3) := by decide +kernel
theorem d_Meaning_typeError_106 : decode prog_4_method_6_code 106 = .ok (.iload_n 1, 1) := by decide +kernel
theorem d_Meaning_typeError_107 : decode prog_4_method_6_code 107 = .ok (.ireturn, 1) := by decide +kernel
theorem d_Meaning_typeFor_0 : decode prog_4_method_19_code 0 = .ok (.aload_n 0, 1) := by decide +kernel
theorem d_Meaning_typeFor_1 : decode prog_4_method_19_code 1 = .ok (.getfield 24, 3) := by decide +kernel
theorem d_Meaning_typeFor_4 : decode prog_4_method_19_code 4 = .ok (.iload_n 1, 1) := by decide +kernel
theorem d_Meaning_typeFor_5 : decode prog_4_method_19_code 5 = .ok (.invokevirtual 128, 3) := by decide +kernel
theorem d_Meaning_typeFor_8 : decode prog_4_method_19_code 8 = .ok (.istore_n 2, 1) := by decide +kernel
theorem d_Meaning_typeFor_9 : decode prog_4_method_19_code 9 = .ok (.iload_n 2, 1) := by decide +kernel
theorem d_Meaning_typeFor_10 : decode prog_4_method_19_code 10 = .ok (.bipush 8, 2) := by decide +kernel
theorem d_Meaning_typeFor_12 : decode prog_4_method_19_code 12 = .ok (.if_icmp .eq 9, 3) := by decide +kernel
theorem d_Meaning_typeFor_15 : decode prog_4_method_19_code 15 = .ok (.iload_n 2, 1) := by decide +kernel
theorem d_Meaning_typeFor_16 : decode prog_4_method_19_code 16 = .ok (.bipush 9, 2) := by decide +kernel
theorem d_Meaning_typeFor_18 : decode prog_4_method_19_code 18 = .ok (.if_icmp .ne 19, 3) := by decide +kernel
theorem d_Meaning_typeFor_21 : decode prog_4_method_19_code 21 = .ok (.aload_n 0, 1) := by decide +kernel
theorem d_Meaning_typeFor_22 : decode prog_4_method_19_code 22 = .ok (.getfield 24, 3) := by decide +kernel
theorem d_Meaning_typeFor_25 : decode prog_4_method_19_code 25 = .ok (.aload_n 0, 1) := by decide +kernel
theorem d_Meaning_typeFor_26 : decode prog_4_method_19_code 26 = .ok (.getfield 24, 3) := by decide +kernel
theorem d_Meaning_typeFor_29 : decode prog_4_method_19_code 29 = .ok (.iload_n 1, 1) := by decide +kernel
theorem d_Meaning_typeFor_30 : decode prog_4_method_19_code 30 = .ok (.invokevirtual 198, 3) := by decide +kernel
theorem d_Meaning_typeFor_33 : decode prog_4_method_19_code 33 = .ok (.invokevirtual 201, 3) := by decide +kernel
theorem d_Meaning_typeFor_36 : decode prog_4_method_19_code 36 = .ok (.ireturn, 1) := by decide +kernel
theorem d_Meaning_typeFor_37 : decode prog_4_method_19_code 37 = .ok (.iload_n 2, 1) := by decide +kernel
theorem d_Meaning_typeFor_38 : decode prog_4_method_19_code 38 = .ok (.iconst 4, 1) := by decide +kernel
theorem d_Meaning_typeFor_39 : decode prog_4_method_19_code 39 = .ok (.if_icmp .eq 9, 3) := by decide +kernel
theorem d_Meaning_typeFor_42 : decode prog_4_method_19_code 42 = .ok (.iload_n 2, 1) := by decide +kernel
theorem d_Meaning_typeFor_43 : decode prog_4_method_19_code 43 = .ok (.bipush 28, 2) := by decide +kernel
theorem d_Meaning_typeFor_45 : decode prog_4_method_19_code 45 = .ok (.if_icmp .ne 7, 3) := by decide +kernel
theorem d_Meaning_typeFor_48 : decode prog_4_method_19_code 48 = .ok (.iconst 1, 1) := by decide +kernel
theorem d_Meaning_typeFor_49 : decode prog_4_method_19_code 49 = .ok (.goto 4, 3) := by decide +kernel
theorem d_Meaning_typeFor_52 : decode prog_4_method_19_code 52 = .ok (.iconst 0, 1) := by decide +kernel
theorem d_Meaning_typeFor_53 : decode prog_4_method_19_code 53 = .ok (.istore_n 3, 1) := by decide +kernel
theorem d_Meaning_typeFor_54 : decode prog_4_method_19_code 54 = .ok (.iload_n 3, 1) := by decide +kernel
theorem d_Meaning_typeFor_55 : decode prog_4_method_19_code 55 = .ok (.ifCond .eq 14, 3) := by decide +kernel
theorem d_Meaning_typeFor_58 : decode prog_4_method_19_code 58 = .ok (.aload_n 0, 1) := by decide +kernel
theorem d_Meaning_typeFor_59 : decode prog_4_method_19_code 59 = .ok (.getfield 24, 3) := by decide +kernel
theorem d_Meaning_typeFor_62 : decode prog_4_method_19_code 62 = .ok (.iload_n 1, 1) := by decide +kernel
theorem d_Meaning_typeFor_63 : decode prog_4_method_19_code 63 = .ok (.invokevirtual 201, 3) := by decide +kernel
theorem d_Meaning_typeFor_66 : decode prog_4_method_19_code 66 = .ok (.goto 7, 3) := by decide +kernel
theorem d_Meaning_typeFor_69 : decode prog_4_method_19_code 69 = .ok (.iload_n 2, 1) := by decide +kernel
theorem d_Meaning_typeFor_70 : decode prog_4_method_19_code 70 = .ok (.invokestatic 213, 3) := by decide +kernel
theorem d_Meaning_typeFor_73 : decode prog_4_method_19_code 73 = .ok (.ireturn, 1) := by decide +kernel
theorem d_Meaning_typeParameters_0 : decode prog_4_method_21_code 0 = .ok (.iconst 0, 1) := by decide +kernel
theorem d_Meaning_typeParameters_1 : decode prog_4_method_21_code 1 = .ok (.istore_n 1, 1) := by decide +kernel
theorem d_Meaning_typeParameters_2 : decode prog_4_method_21_code 2 = .ok (.iload_n 1, 1) := by decide +kernel
theorem d_Meaning_typeParameters_3 : decode prog_4_method_21_code 3 = .ok (.aload_n 0, 1) := by decide +kernel
theorem d_Meaning_typeParameters_4 : decode prog_4_method_21_code 4 = .ok (.getfield 24, 3) := by decide +kernel
theorem d_Meaning_typeParameters_7 : decode prog_4_method_21_code 7 = .ok (.invokevirtual 121, 3) := by decide +kernel
theorem d_Meaning_typeParameters_10 : decode prog_4_method_21_code 10 = .ok (.if_icmp .ge 35, 3) := by decide +kernel
theorem d_Meaning_typeParameters_13 : decode prog_4_method_21_code 13 = .ok (.aload_n 0, 1) := by decide +kernel
theorem d_Meaning_typeParameters_14 : decode prog_4_method_21_code 14 = .ok (.getfield 24, 3) := by decide +kernel
theorem d_Meaning_typeParameters_17 : decode prog_4_method_21_code 17 = .ok (.iload_n 1, 1) := by decide +kernel
theorem d_Meaning_typeParameters_18 : decode prog_4_method_21_code 18 = .ok (.invokevirtual 128, 3) := by decide +kernel
theorem d_Meaning_typeParameters_21 : decode prog_4_method_21_code 21 = .ok (.bipush 28, 2) := by decide +kernel
theorem d_Meaning_typeParameters_23 : decode prog_4_method_21_code 23 = .ok (.if_icmp .ne 16, 3) := by decide +kernel
theorem d_Meaning_typeParameters_26 : decode prog_4_method_21_code 26 = .ok (.aload_n 0, 1) := by decide +kernel
theorem d_Meaning_typeParameters_27 : decode prog_4_method_21_code 27 = .ok (.getfield 24, 3) := by decide +kernel
theorem d_Meaning_typeParameters_30 : decode prog_4_method_21_code 30 = .ok (.iload_n 1, 1) := by decide +kernel
theorem d_Meaning_typeParameters_31 : decode prog_4_method_21_code 31 = .ok (.aload_n 0, 1) := by decide +kernel
theorem d_Meaning_typeParameters_32 : decode prog_4_method_21_code 32 = .ok (.iload_n 1, 1) := by decide +kernel
theorem d_Meaning_typeParameters_33 : decode prog_4_method_21_code 33 = .ok (.invokevirtual 219, 3) := by decide +kernel
theorem d_Meaning_typeParameters_36 : decode prog_4_method_21_code 36 = .ok (.invokevirtual 154, 3) := by decide +kernel
theorem d_Meaning_typeParameters_39 : decode prog_4_method_21_code 39 = .ok (.iinc 1 1, 3) := by decide +kernel
theorem d_Meaning_typeParameters_42 : decode prog_4_method_21_code 42 = .ok (.goto (-40), 3) := by decide +kernel
theorem d_Meaning_typeParameters_45 : decode prog_4_method_21_code 45 = .ok (.return_, 1) := by decide +kernel
theorem d_Meaning_valuesMatch_0 : decode prog_4_method_28_code 0 = .ok (.aload_n 0, 1) := by decide +kernel
theorem d_Meaning_valuesMatch_1 : decode prog_4_method_28_code 1 = .ok (.getfield 9, 3) := by decide +kernel
theorem d_Meaning_valuesMatch_4 : decode prog_4_method_28_code 4 = .ok (.aload_n 0, 1) := by decide +kernel
theorem d_Meaning_valuesMatch_5 : decode prog_4_method_28_code 5 = .ok (.getfield 32, 3) := by decide +kernel
theorem d_Meaning_valuesMatch_8 : decode prog_4_method_28_code 8 = .ok (.getfield 61, 3) := by decide +kernel
theorem d_Meaning_valuesMatch_11 : decode prog_4_method_28_code 11 = .ok (.invokevirtual 172, 3) := by decide +kernel
theorem d_Meaning_valuesMatch_14 : decode prog_4_method_28_code 14 = .ok (.istore_n 1, 1) := by decide +kernel
theorem d_Meaning_valuesMatch_15 : decode prog_4_method_28_code 15 = .ok (.aload_n 0, 1) := by decide +kernel
theorem d_Meaning_valuesMatch_16 : decode prog_4_method_28_code 16 = .ok (.getfield 32, 3) := by decide +kernel
theorem d_Meaning_valuesMatch_19 : decode prog_4_method_28_code 19 = .ok (.getfield 105, 3) := by decide +kernel
theorem d_Meaning_valuesMatch_22 : decode prog_4_method_28_code 22 = .ok (.iconst 5, 1) := by decide +kernel
theorem d_Meaning_valuesMatch_23 : decode prog_4_method_28_code 23 = .ok (.if_icmp .ne 17, 3) := by decide +kernel
theorem d_Meaning_valuesMatch_26 : decode prog_4_method_28_code 26 = .ok (.aload_n 0, 1) := by decide +kernel
theorem d_Meaning_valuesMatch_27 : decode prog_4_method_28_code 27 = .ok (.getfield 28, 3) := by decide +kernel
theorem d_Meaning_valuesMatch_30 : decode prog_4_method_28_code 30 = .ok (.iconst 0, 1) := by decide +kernel
theorem d_Meaning_valuesMatch_31 : decode prog_4_method_28_code 31 = .ok (.invokevirtual 66, 3) := by decide +kernel
theorem d_Meaning_valuesMatch_34 : decode prog_4_method_28_code 34 = .ok (.iload_n 1, 1) := by decide +kernel
theorem d_Meaning_valuesMatch_35 : decode prog_4_method_28_code 35 = .ok (.if_icmp .eq 5, 3) := by decide +kernel
theorem d_Meaning_valuesMatch_38 : decode prog_4_method_28_code 38 = .ok (.iconst 0, 1) := by decide +kernel
theorem d_Meaning_valuesMatch_39 : decode prog_4_method_28_code 39 = .ok (.ireturn, 1) := by decide +kernel
theorem d_Meaning_valuesMatch_40 : decode prog_4_method_28_code 40 = .ok (.iconst 0, 1) := by decide +kernel
theorem d_Meaning_valuesMatch_41 : decode prog_4_method_28_code 41 = .ok (.istore_n 2, 1) := by decide +kernel
theorem d_Meaning_valuesMatch_42 : decode prog_4_method_28_code 42 = .ok (.iconst 0, 1) := by decide +kernel
theorem d_Meaning_valuesMatch_43 : decode prog_4_method_28_code 43 = .ok (.istore_n 3, 1) := by decide +kernel
theorem d_Meaning_valuesMatch_44 : decode prog_4_method_28_code 44 = .ok (.iload_n 3, 1) := by decide +kernel
theorem d_Meaning_valuesMatch_45 : decode prog_4_method_28_code 45 = .ok (.aload_n 0, 1) := by decide +kernel
theorem d_Meaning_valuesMatch_46 : decode prog_4_method_28_code 46 = .ok (.getfield 28, 3) := by decide +kernel
theorem d_Meaning_valuesMatch_49 : decode prog_4_method_28_code 49 = .ok (.bipush 12, 2) := by decide +kernel
theorem d_Meaning_valuesMatch_51 : decode prog_4_method_28_code 51 = .ok (.invokevirtual 66, 3) := by decide +kernel
theorem d_Meaning_valuesMatch_54 : decode prog_4_method_28_code 54 = .ok (.if_icmp .ge 34, 3) := by decide +kernel
theorem d_Meaning_valuesMatch_57 : decode prog_4_method_28_code 57 = .ok (.aload_n 0, 1) := by decide +kernel
theorem d_Meaning_valuesMatch_58 : decode prog_4_method_28_code 58 = .ok (.getfield 28, 3) := by decide +kernel
theorem d_Meaning_valuesMatch_61 : decode prog_4_method_28_code 61 = .ok (.bipush 12, 2) := by decide +kernel
theorem d_Meaning_valuesMatch_63 : decode prog_4_method_28_code 63 = .ok (.iload_n 3, 1) := by decide +kernel
theorem d_Meaning_valuesMatch_64 : decode prog_4_method_28_code 64 = .ok (.invokevirtual 70, 3) := by decide +kernel
theorem d_Meaning_valuesMatch_67 : decode prog_4_method_28_code 67 = .ok (.istore 4, 2) := by decide +kernel
theorem d_Meaning_valuesMatch_69 : decode prog_4_method_28_code 69 = .ok (.iload 4, 2) := by decide +kernel
theorem d_Meaning_valuesMatch_71 : decode prog_4_method_28_code 71 = .ok (.iload_n 2, 1) := by decide +kernel
theorem d_Meaning_valuesMatch_72 : decode prog_4_method_28_code 72 = .ok (.isub, 1) := by decide +kernel
theorem d_Meaning_valuesMatch_73 : decode prog_4_method_28_code 73 = .ok (.iload_n 1, 1) := by decide +kernel
theorem d_Meaning_valuesMatch_74 : decode prog_4_method_28_code 74 = .ok (.if_icmp .eq 5, 3) := by decide +kernel
theorem d_Meaning_valuesMatch_77 : decode prog_4_method_28_code 77 = .ok (.iconst 0, 1) := by decide +kernel
theorem d_Meaning_valuesMatch_78 : decode prog_4_method_28_code 78 = .ok (.ireturn, 1) := by decide +kernel
theorem d_Meaning_valuesMatch_79 : decode prog_4_method_28_code 79 = .ok (.iload 4, 2) := by decide +kernel
theorem d_Meaning_valuesMatch_81 : decode prog_4_method_28_code 81 = .ok (.istore_n 2, 1) := by decide +kernel
theorem d_Meaning_valuesMatch_82 : decode prog_4_method_28_code 82 = .ok (.iinc 3 1, 3) := by decide +kernel
theorem d_Meaning_valuesMatch_85 : decode prog_4_method_28_code 85 = .ok (.goto (-41), 3) := by decide +kernel
theorem d_Meaning_valuesMatch_88 : decode prog_4_method_28_code 88 = .ok (.iconst 1, 1) := by decide +kernel
theorem d_Meaning_valuesMatch_89 : decode prog_4_method_28_code 89 = .ok (.ireturn, 1) := by decide +kernel
theorem d_Nodes_adopt_0 : decode prog_5_method_25_code 0 = .ok (.iload_n 1, 1) := by decide +kernel
theorem d_Nodes_adopt_1 : decode prog_5_method_25_code 1 = .ok (.ifCond .lt 18, 3) := by decide +kernel
theorem d_Nodes_adopt_4 : decode prog_5_method_25_code 4 = .ok (.iload_n 1, 1) := by decide +kernel
theorem d_Nodes_adopt_5 : decode prog_5_method_25_code 5 = .ok (.aload_n 0, 1) := by decide +kernel
theorem d_Nodes_adopt_6 : decode prog_5_method_25_code 6 = .ok (.getfield 39, 3) := by decide +kernel
theorem d_Nodes_adopt_9 : decode prog_5_method_25_code 9 = .ok (.if_icmp .ge 10, 3) := by decide +kernel
theorem d_Nodes_adopt_12 : decode prog_5_method_25_code 12 = .ok (.aload_n 0, 1) := by decide +kernel
theorem d_Nodes_adopt_13 : decode prog_5_method_25_code 13 = .ok (.getfield 24, 3) := by decide +kernel
theorem d_Nodes_adopt_16 : decode prog_5_method_25_code 16 = .ok (.iload_n 1, 1) := by decide +kernel
theorem d_Nodes_adopt_17 : decode prog_5_method_25_code 17 = .ok (.iload_n 2, 1) := by decide +kernel
theorem d_Nodes_adopt_18 : decode prog_5_method_25_code 18 = .ok (.iastore, 1) := by decide +kernel
theorem d_Nodes_adopt_19 : decode prog_5_method_25_code 19 = .ok (.return_, 1) := by decide +kernel
theorem d_Nodes_again_0 : decode prog_5_method_11_code 0 = .ok (.aload_n 0, 1) := by decide +kernel
theorem d_Nodes_again_1 : decode prog_5_method_11_code 1 = .ok (.getfield 39, 3) := by decide +kernel
theorem d_Nodes_again_4 : decode prog_5_method_11_code 4 = .ok (.iload_n 1, 1) := by decide +kernel
theorem d_Nodes_again_5 : decode prog_5_method_11_code 5 = .ok (.isub, 1) := by decide +kernel
theorem d_Nodes_again_6 : decode prog_5_method_11_code 6 = .ok (.istore_n 3, 1) := by decide +kernel
theorem d_Nodes_again_7 : decode prog_5_method_11_code 7 = .ok (.iconst 0, 1) := by decide +kernel
theorem d_Nodes_again_8 : decode prog_5_method_11_code 8 = .ok (.istore 4, 2) := by decide +kernel
theorem d_Nodes_again_10 : decode prog_5_method_11_code 10 = .ok (.iload_n 1, 1) := by decide +kernel
theorem d_Nodes_again_11 : decode prog_5_method_11_code 11 = .ok (.iconst 0, 1) := by decide +kernel
theorem d_Nodes_again_12 : decode prog_5_method_11_code 12 = .ok (.invokestatic 55, 3) := by decide +kernel
theorem d_Nodes_again_15 : decode prog_5_method_11_code 15 = .ok (.istore 5, 2) := by decide +kernel
theorem d_Nodes_again_17 : decode prog_5_method_11_code 17 = .ok (.iload 5, 2) := by decide +kernel
theorem d_Nodes_again_19 : decode prog_5_method_11_code 19 = .ok (.iload_n 2, 1) := by decide +kernel
theorem d_Nodes_again_20 : decode prog_5_method_11_code 20 = .ok (.if_icmp .gt 140, 3) := by decide +kernel
theorem d_Nodes_again_23 : decode prog_5_method_11_code 23 = .ok (.iload 5, 2) := by decide +kernel
theorem d_Nodes_again_25 : decode prog_5_method_11_code 25 = .ok (.sipush 200, 3) := by decide +kernel
theorem d_Nodes_again_28 : decode prog_5_method_11_code 28 = .ok (.if_icmp .ge 132, 3) := by decide +kernel
theorem d_Nodes_again_31 : decode prog_5_method_11_code 31 = .ok (.aload_n 0, 1) := by decide +kernel
theorem d_Nodes_again_32 : decode prog_5_method_11_code 32 = .ok (.getfield 43, 3) := by decide +kernel
theorem d_Nodes_again_35 : decode prog_5_method_11_code 35 = .ok (.ifCond .ne 125, 3) := by decide +kernel
theorem d_Nodes_again_38 : decode prog_5_method_11_code 38 = .ok (.aload_n 0, 1) := by decide +kernel
theorem d_Nodes_again_39 : decode prog_5_method_11_code 39 = .ok (.getfield 11, 3) := by decide +kernel
theorem d_Nodes_again_42 : decode prog_5_method_11_code 42 = .ok (.iload 5, 2) := by decide +kernel
theorem d_Nodes_again_44 : decode prog_5_method_11_code 44 = .ok (.iaload, 1) := by decide +kernel
theorem d_Nodes_again_45 : decode prog_5_method_11_code 45 = .ok (.invokestatic 61, 3) := by decide +kernel
theorem d_Nodes_again_48 : decode prog_5_method_11_code 48 = .ok (.ifCond .ne 40, 3) := by decide +kernel
theorem d_Nodes_again_51 : decode prog_5_method_11_code 51 = .ok (.aload_n 0, 1) := by decide +kernel
theorem d_Nodes_again_52 : decode prog_5_method_11_code 52 = .ok (.aload_n 0, 1) := by decide +kernel
theorem d_Nodes_again_53 : decode prog_5_method_11_code 53 = .ok (.getfield 11, 3) := by decide +kernel
theorem d_Nodes_again_56 : decode prog_5_method_11_code 56 = .ok (.iload 5, 2) := by decide +kernel
theorem d_Nodes_again_58 : decode prog_5_method_11_code 58 = .ok (.iaload, 1) := by decide +kernel
theorem d_Nodes_again_59 : decode prog_5_method_11_code 59 = .ok (.aload_n 0, 1) := by decide +kernel
theorem d_Nodes_again_60 : decode prog_5_method_11_code 60 = .ok (.getfield 15, 3) := by decide +kernel
theorem d_Nodes_again_63 : decode prog_5_method_11_code 63 = .ok (.iload 5, 2) := by decide +kernel
theorem d_Nodes_again_65 : decode prog_5_method_11_code 65 = .ok (.iaload, 1) := by decide +kernel
theorem d_Nodes_again_66 : decode prog_5_method_11_code 66 = .ok (.aload_n 0, 1) := by decide +kernel
theorem d_Nodes_again_67 : decode prog_5_method_11_code 67 = .ok (.getfield 33, 3) := by decide +kernel
theorem d_Nodes_again_70 : decode prog_5_method_11_code 70 = .ok (.iload 5, 2) := by decide +kernel
theorem d_Nodes_again_72 : decode prog_5_method_11_code 72 = .ok (.iaload, 1) := by decide +kernel
theorem d_Nodes_again_73 : decode prog_5_method_11_code 73 = .ok (.aload_n 0, 1) := by decide +kernel
theorem d_Nodes_again_74 : decode prog_5_method_11_code 74 = .ok (.getfield 36, 3) := by decide +kernel
theorem d_Nodes_again_77 : decode prog_5_method_11_code 77 = .ok (.iload 5, 2) := by decide +kernel
theorem d_Nodes_again_79 : decode prog_5_method_11_code 79 = .ok (.iaload, 1) := by decide +kernel
theorem d_Nodes_again_80 : decode prog_5_method_11_code 80 = .ok (.invokevirtual 47, 3) := by decide +kernel
theorem d_Nodes_again_83 : decode prog_5_method_11_code 83 = .ok (.istore 4, 2) := by decide +kernel
theorem d_Nodes_again_85 : decode prog_5_method_11_code 85 = .ok (.goto 69, 3) := by decide +kernel
theorem d_Nodes_again_88 : decode prog_5_method_11_code 88 = .ok (.aload_n 0, 1) := by decide +kernel
theorem d_Nodes_again_89 : decode prog_5_method_11_code 89 = .ok (.getfield 18, 3) := by decide +kernel
theorem d_Nodes_again_92 : decode prog_5_method_11_code 92 = .ok (.iload 5, 2) := by decide +kernel
theorem d_Nodes_again_94 : decode prog_5_method_11_code 94 = .ok (.iaload, 1) := by decide +kernel
theorem d_Nodes_again_95 : decode prog_5_method_11_code 95 = .ok (.ifCond .ge 28, 3) := by decide +kernel
theorem d_Nodes_again_98 : decode prog_5_method_11_code 98 = .ok (.aload_n 0, 1) := by decide +kernel
theorem d_Nodes_again_99 : decode prog_5_method_11_code 99 = .ok (.aload_n 0, 1) := by decide +kernel
theorem d_Nodes_again_100 : decode prog_5_method_11_code 100 = .ok (.getfield 11, 3) := by decide +kernel
theorem d_Nodes_again_103 : decode prog_5_method_11_code 103 = .ok (.iload 5, 2) := by decide +kernel
theorem d_Nodes_again_105 : decode prog_5_method_11_code 105 = .ok (.iaload, 1) := by decide +kernel
theorem d_Nodes_again_106 : decode prog_5_method_11_code 106 = .ok (.aload_n 0, 1) := by decide +kernel
theorem d_Nodes_again_107 : decode prog_5_method_11_code 107 = .ok (.getfield 15, 3) := by decide +kernel
theorem d_Nodes_again_110 : decode prog_5_method_11_code 110 = .ok (.iload 5, 2) := by decide +kernel
theorem d_Nodes_again_112 : decode prog_5_method_11_code 112 = .ok (.iaload, 1) := by decide +kernel
theorem d_Nodes_again_113 : decode prog_5_method_11_code 113 = .ok (.iload_n 3, 1) := by decide +kernel
theorem d_Nodes_again_114 : decode prog_5_method_11_code 114 = .ok (.iadd, 1) := by decide +kernel
theorem d_Nodes_again_115 : decode prog_5_method_11_code 115 = .ok (.invokevirtual 65, 3) := by decide +kernel
theorem d_Nodes_again_118 : decode prog_5_method_11_code 118 = .ok (.istore 4, 2) := by decide +kernel
theorem d_Nodes_again_120 : decode prog_5_method_11_code 120 = .ok (.goto 34, 3) := by decide +kernel
theorem d_Nodes_again_123 : decode prog_5_method_11_code 123 = .ok (.aload_n 0, 1) := by decide +kernel
theorem d_Nodes_again_124 : decode prog_5_method_11_code 124 = .ok (.aload_n 0, 1) := by decide +kernel
theorem d_Nodes_again_125 : decode prog_5_method_11_code 125 = .ok (.getfield 11, 3) := by decide +kernel
theorem d_Nodes_again_128 : decode prog_5_method_11_code 128 = .ok (.iload 5, 2) := by decide +kernel
theorem d_Nodes_again_130 : decode prog_5_method_11_code 130 = .ok (.iaload, 1) := by decide +kernel
theorem d_Nodes_again_131 : decode prog_5_method_11_code 131 = .ok (.aload_n 0, 1) := by decide +kernel
theorem d_Nodes_again_132 : decode prog_5_method_11_code 132 = .ok (.getfield 15, 3) := by decide +kernel
theorem d_Nodes_again_135 : decode prog_5_method_11_code 135 = .ok (.iload 5, 2) := by decide +kernel
theorem d_Nodes_again_137 : decode prog_5_method_11_code 137 = .ok (.iaload, 1) := by decide +kernel
theorem d_Nodes_again_138 : decode prog_5_method_11_code 138 = .ok (.iload_n 3, 1) := by decide +kernel
theorem d_Nodes_again_139 : decode prog_5_method_11_code 139 = .ok (.iadd, 1) := by decide +kernel
theorem d_Nodes_again_140 : decode prog_5_method_11_code 140 = .ok (.aload_n 0, 1) := by decide +kernel
theorem d_Nodes_again_141 : decode prog_5_method_11_code 141 = .ok (.getfield 18, 3) := by decide +kernel
theorem d_Nodes_again_144 : decode prog_5_method_11_code 144 = .ok (.iload 5, 2) := by decide +kernel
theorem d_Nodes_again_146 : decode prog_5_method_11_code 146 = .ok (.iaload, 1) := by decide +kernel
theorem d_Nodes_again_147 : decode prog_5_method_11_code 147 = .ok (.iload_n 3, 1) := by decide +kernel
theorem d_Nodes_again_148 : decode prog_5_method_11_code 148 = .ok (.iadd, 1) := by decide +kernel
theorem d_Nodes_again_149 : decode prog_5_method_11_code 149 = .ok (.invokevirtual 68, 3) := by decide +kernel
theorem d_Nodes_again_152 : decode prog_5_method_11_code 152 = .ok (.istore 4, 2) := by decide +kernel
theorem d_Nodes_again_154 : decode prog_5_method_11_code 154 = .ok (.iinc 5 1, 3) := by decide +kernel
theorem d_Nodes_again_157 : decode prog_5_method_11_code 157 = .ok (.goto (-140), 3) := by decide +kernel
theorem d_Nodes_again_160 : decode prog_5_method_11_code 160 = .ok (.iload 4, 2) := by decide +kernel
theorem d_Nodes_again_162 : decode prog_5_method_11_code 162 = .ok (.ireturn, 1) := by decide +kernel
theorem d_Nodes_aggregates_0 : decode prog_5_method_3_code 0 = .ok (.iload_n 0, 1) := by decide +kernel
theorem d_Nodes_aggregates_1 : decode prog_5_method_3_code 1 = .ok (.iconst 5, 1) := by decide +kernel
theorem d_Nodes_aggregates_2 : decode prog_5_method_3_code 2 = .ok (.if_icmp .lt 13, 3) := by decide +kernel
theorem d_Nodes_aggregates_5 : decode prog_5_method_3_code 5 = .ok (.iload_n 0, 1) := by decide +kernel
theorem d_Nodes_aggregates_6 : decode prog_5_method_3_code 6 = .ok (.bipush 9, 2) := by decide +kernel
theorem d_Nodes_aggregates_8 : decode prog_5_method_3_code 8 = .ok (.if_icmp .gt 7, 3) := by decide +kernel
theorem d_Nodes_aggregates_11 : decode prog_5_method_3_code 11 = .ok (.iconst 1, 1) := by decide +kernel
theorem d_Nodes_aggregates_12 : decode prog_5_method_3_code 12 = .ok (.goto 4, 3) := by decide +kernel
theorem d_Nodes_aggregates_15 : decode prog_5_method_3_code 15 = .ok (.iconst 0, 1) := by decide +kernel
theorem d_Nodes_aggregates_16 : decode prog_5_method_3_code 16 = .ok (.ireturn, 1) := by decide +kernel
theorem d_Nodes_clear_0 : decode prog_5_method_5_code 0 = .ok (.aload_n 0, 1) := by decide +kernel
theorem d_Nodes_clear_1 : decode prog_5_method_5_code 1 = .ok (.iconst 0, 1) := by decide +kernel
theorem d_Nodes_clear_2 : decode prog_5_method_5_code 2 = .ok (.putfield 39, 3) := by decide +kernel
theorem d_Nodes_clear_5 : decode prog_5_method_5_code 5 = .ok (.aload_n 0, 1) := by decide +kernel
theorem d_Nodes_clear_6 : decode prog_5_method_5_code 6 = .ok (.iconst 0, 1) := by decide +kernel
theorem d_Nodes_clear_7 : decode prog_5_method_5_code 7 = .ok (.putfield 43, 3) := by decide +kernel
theorem d_Nodes_clear_10 : decode prog_5_method_5_code 10 = .ok (.return_, 1) := by decide +kernel
theorem d_Nodes_compares_0 : decode prog_5_method_4_code 0 = .ok (.iload_n 0, 1) := by decide +kernel
theorem d_Nodes_compares_1 : decode prog_5_method_4_code 1 = .ok (.bipush 17, 2) := by decide +kernel
theorem d_Nodes_compares_3 : decode prog_5_method_4_code 3 = .ok (.if_icmp .lt 13, 3) := by decide +kernel
theorem d_Nodes_compares_6 : decode prog_5_method_4_code 6 = .ok (.iload_n 0, 1) := by decide +kernel
theorem d_Nodes_compares_7 : decode prog_5_method_4_code 7 = .ok (.bipush 22, 2) := by decide +kernel
theorem d_Nodes_compares_9 : decode prog_5_method_4_code 9 = .ok (.if_icmp .gt 7, 3) := by decide +kernel
theorem d_Nodes_compares_12 : decode prog_5_method_4_code 12 = .ok (.iconst 1, 1) := by decide +kernel
theorem d_Nodes_compares_13 : decode prog_5_method_4_code 13 = .ok (.goto 4, 3) := by decide +kernel
theorem d_Nodes_compares_16 : decode prog_5_method_4_code 16 = .ok (.iconst 0, 1) := by decide +kernel
theorem d_Nodes_compares_17 : decode prog_5_method_4_code 17 = .ok (.ireturn, 1) := by decide +kernel
theorem d_Nodes_faultOf_0 : decode prog_5_method_18_code 0 = .ok (.iload_n 1, 1) := by decide +kernel
theorem d_Nodes_faultOf_1 : decode prog_5_method_18_code 1 = .ok (.ifCond .lt 20, 3) := by decide +kernel
theorem d_Nodes_faultOf_4 : decode prog_5_method_18_code 4 = .ok (.iload_n 1, 1) := by decide +kernel
theorem d_Nodes_faultOf_5 : decode prog_5_method_18_code 5 = .ok (.aload_n 0, 1) := by decide +kernel
theorem d_Nodes_faultOf_6 : decode prog_5_method_18_code 6 = .ok (.getfield 39, 3) := by decide +kernel
theorem d_Nodes_faultOf_9 : decode prog_5_method_18_code 9 = .ok (.if_icmp .ge 12, 3) := by decide +kernel
theorem d_Nodes_faultOf_12 : decode prog_5_method_18_code 12 = .ok (.aload_n 0, 1) := by decide +kernel
theorem d_Nodes_faultOf_13 : decode prog_5_method_18_code 13 = .ok (.getfield 30, 3) := by decide +kernel
theorem d_Nodes_faultOf_16 : decode prog_5_method_18_code 16 = .ok (.iload_n 1, 1) := by decide +kernel
theorem d_Nodes_faultOf_17 : decode prog_5_method_18_code 17 = .ok (.iaload, 1) := by decide +kernel
theorem d_Nodes_faultOf_18 : decode prog_5_method_18_code 18 = .ok (.goto 4, 3) := by decide +kernel
theorem d_Nodes_faultOf_21 : decode prog_5_method_18_code 21 = .ok (.iconst 0, 1) := by decide +kernel
theorem d_Nodes_faultOf_22 : decode prog_5_method_18_code 22 = .ok (.ireturn, 1) := by decide +kernel
theorem d_Nodes_firstOf_0 : decode prog_5_method_13_code 0 = .ok (.iload_n 1, 1) := by decide +kernel
theorem d_Nodes_firstOf_1 : decode prog_5_method_13_code 1 = .ok (.ifCond .lt 20, 3) := by decide +kernel
theorem d_Nodes_firstOf_4 : decode prog_5_method_13_code 4 = .ok (.iload_n 1, 1) := by decide +kernel
theorem d_Nodes_firstOf_5 : decode prog_5_method_13_code 5 = .ok (.aload_n 0, 1) := by decide +kernel
theorem d_Nodes_firstOf_6 : decode prog_5_method_13_code 6 = .ok (.getfield 39, 3) := by decide +kernel
theorem d_Nodes_firstOf_9 : decode prog_5_method_13_code 9 = .ok (.if_icmp .ge 12, 3) := by decide +kernel
theorem d_Nodes_firstOf_12 : decode prog_5_method_13_code 12 = .ok (.aload_n 0, 1) := by decide +kernel
theorem d_Nodes_firstOf_13 : decode prog_5_method_13_code 13 = .ok (.getfield 15, 3) := by decide +kernel
theorem d_Nodes_firstOf_16 : decode prog_5_method_13_code 16 = .ok (.iload_n 1, 1) := by decide +kernel
theorem d_Nodes_firstOf_17 : decode prog_5_method_13_code 17 = .ok (.iaload, 1) := by decide +kernel
theorem d_Nodes_firstOf_18 : decode prog_5_method_13_code 18 = .ok (.goto 4, 3) := by decide +kernel
theorem d_Nodes_firstOf_21 : decode prog_5_method_13_code 21 = .ok (.iconst (-1), 1) := by decide +kernel
theorem d_Nodes_firstOf_22 : decode prog_5_method_13_code 22 = .ok (.ireturn, 1) := by decide +kernel
theorem d_Nodes_isOver_0 : decode prog_5_method_7_code 0 = .ok (.aload_n 0, 1) := by decide +kernel
theorem d_Nodes_isOver_1 : decode prog_5_method_7_code 1 = .ok (.getfield 43, 3) := by decide +kernel
theorem d_Nodes_isOver_4 : decode prog_5_method_7_code 4 = .ok (.ireturn, 1) := by decide +kernel
theorem d_Nodes_join_0 : decode prog_5_method_8_code 0 = .ok (.iload_n 2, 1) := by decide +kernel
theorem d_Nodes_join_1 : decode prog_5_method_8_code 1 = .ok (.ifCond .lt 7, 3) := by decide +kernel
theorem d_Nodes_join_4 : decode prog_5_method_8_code 4 = .ok (.iload_n 3, 1) := by decide +kernel
theorem d_Nodes_join_5 : decode prog_5_method_8_code 5 = .ok (.ifCond .ge 5, 3) := by decide +kernel
theorem d_Nodes_join_8 : decode prog_5_method_8_code 8 = .ok (.iconst (-1), 1) := by decide +kernel
theorem d_Nodes_join_9 : decode prog_5_method_8_code 9 = .ok (.ireturn, 1) := by decide +kernel
theorem d_Nodes_join_10 : decode prog_5_method_8_code 10 = .ok (.aload_n 0, 1) := by decide +kernel
theorem d_Nodes_join_11 : decode prog_5_method_8_code 11 = .ok (.iload_n 1, 1) := by decide +kernel
theorem d_Nodes_join_12 : decode prog_5_method_8_code 12 = .ok (.iload_n 2, 1) := by decide +kernel
theorem d_Nodes_join_13 : decode prog_5_method_8_code 13 = .ok (.iconst (-1), 1) := by decide +kernel
theorem d_Nodes_join_14 : decode prog_5_method_8_code 14 = .ok (.iconst (-1), 1) := by decide +kernel
theorem d_Nodes_join_15 : decode prog_5_method_8_code 15 = .ok (.invokevirtual 47, 3) := by decide +kernel
theorem d_Nodes_join_18 : decode prog_5_method_8_code 18 = .ok (.istore 4, 2) := by decide +kernel
theorem d_Nodes_join_20 : decode prog_5_method_8_code 20 = .ok (.aload_n 0, 1) := by decide +kernel
theorem d_Nodes_join_21 : decode prog_5_method_8_code 21 = .ok (.getfield 43, 3) := by decide +kernel
theorem d_Nodes_join_24 : decode prog_5_method_8_code 24 = .ok (.ifCond .ne 25, 3) := by decide +kernel
theorem d_Nodes_join_27 : decode prog_5_method_8_code 27 = .ok (.aload_n 0, 1) := by decide +kernel
theorem d_Nodes_join_28 : decode prog_5_method_8_code 28 = .ok (.getfield 18, 3) := by decide +kernel
theorem d_Nodes_join_31 : decode prog_5_method_8_code 31 = .ok (.iload 4, 2) := by decide +kernel
theorem d_Nodes_join_33 : decode prog_5_method_8_code 33 = .ok (.iload_n 3, 1) := by decide +kernel
theorem d_Nodes_join_34 : decode prog_5_method_8_code 34 = .ok (.iastore, 1) := by decide +kernel
theorem d_Nodes_join_35 : decode prog_5_method_8_code 35 = .ok (.aload_n 0, 1) := by decide +kernel
theorem d_Nodes_join_36 : decode prog_5_method_8_code 36 = .ok (.iload_n 2, 1) := by decide +kernel
theorem d_Nodes_join_37 : decode prog_5_method_8_code 37 = .ok (.iload 4, 2) := by decide +kernel
theorem d_Nodes_join_39 : decode prog_5_method_8_code 39 = .ok (.invokevirtual 51, 3) := by decide +kernel
theorem d_Nodes_join_42 : decode prog_5_method_8_code 42 = .ok (.aload_n 0, 1) := by decide +kernel
theorem d_Nodes_join_43 : decode prog_5_method_8_code 43 = .ok (.iload_n 3, 1) := by decide +kernel
theorem d_Nodes_join_44 : decode prog_5_method_8_code 44 = .ok (.iload 4, 2) := by decide +kernel
theorem d_Nodes_join_46 : decode prog_5_method_8_code 46 = .ok (.invokevirtual 51, 3) := by decide +kernel
theorem d_Nodes_join_49 : decode prog_5_method_8_code 49 = .ok (.iload 4, 2) := by decide +kernel
theorem d_Nodes_join_51 : decode prog_5_method_8_code 51 = .ok (.ireturn, 1) := by decide +kernel
theorem d_Nodes_kindOf_0 : decode prog_5_method_12_code 0 = .ok (.iload_n 1, 1) := by decide +kernel
theorem d_Nodes_kindOf_1 : decode prog_5_method_12_code 1 = .ok (.ifCond .lt 20, 3) := by decide +kernel
theorem d_Nodes_kindOf_4 : decode prog_5_method_12_code 4 = .ok (.iload_n 1, 1) := by decide +kernel
theorem d_Nodes_kindOf_5 : decode prog_5_method_12_code 5 = .ok (.aload_n 0, 1) := by decide +kernel
theorem d_Nodes_kindOf_6 : decode prog_5_method_12_code 6 = .ok (.getfield 39, 3) := by decide +kernel
theorem d_Nodes_kindOf_9 : decode prog_5_method_12_code 9 = .ok (.if_icmp .ge 12, 3) := by decide +kernel
theorem d_Nodes_kindOf_12 : decode prog_5_method_12_code 12 = .ok (.aload_n 0, 1) := by decide +kernel
theorem d_Nodes_kindOf_13 : decode prog_5_method_12_code 13 = .ok (.getfield 11, 3) := by decide +kernel
theorem d_Nodes_kindOf_16 : decode prog_5_method_12_code 16 = .ok (.iload_n 1, 1) := by decide +kernel
theorem d_Nodes_kindOf_17 : decode prog_5_method_12_code 17 = .ok (.iaload, 1) := by decide +kernel
theorem d_Nodes_kindOf_18 : decode prog_5_method_12_code 18 = .ok (.goto 4, 3) := by decide +kernel
theorem d_Nodes_kindOf_21 : decode prog_5_method_12_code 21 = .ok (.iconst (-1), 1) := by decide +kernel
theorem d_Nodes_kindOf_22 : decode prog_5_method_12_code 22 = .ok (.ireturn, 1) := by decide +kernel
theorem d_Nodes_leaf_0 : decode prog_5_method_10_code 0 = .ok (.aload_n 0, 1) := by decide +kernel
theorem d_Nodes_leaf_1 : decode prog_5_method_10_code 1 = .ok (.getfield 39, 3) := by decide +kernel
theorem d_Nodes_leaf_4 : decode prog_5_method_10_code 4 = .ok (.sipush 200, 3) := by decide +kernel
theorem d_Nodes_leaf_7 : decode prog_5_method_10_code 7 = .ok (.if_icmp .lt 10, 3) := by decide +kernel
theorem d_Nodes_leaf_10 : decode prog_5_method_10_code 10 = .ok (.aload_n 0, 1) := by decide +kernel
theorem d_Nodes_leaf_11 : decode prog_5_method_10_code 11 = .ok (.iconst 1, 1) := by decide +kernel
theorem d_Nodes_leaf_12 : decode prog_5_method_10_code 12 = .ok (.putfield 43, 3) := by decide +kernel
theorem d_Nodes_leaf_15 : decode prog_5_method_10_code 15 = .ok (.iconst 0, 1) := by decide +kernel
theorem d_Nodes_leaf_16 : decode prog_5_method_10_code 16 = .ok (.ireturn, 1) := by decide +kernel
theorem d_Nodes_leaf_17 : decode prog_5_method_10_code 17 = .ok (.aload_n 0, 1) := by decide +kernel
theorem d_Nodes_leaf_18 : decode prog_5_method_10_code 18 = .ok (.getfield 39, 3) := by decide +kernel
theorem d_Nodes_leaf_21 : decode prog_5_method_10_code 21 = .ok (.istore 5, 2) := by decide +kernel
theorem d_Nodes_leaf_23 : decode prog_5_method_10_code 23 = .ok (.aload_n 0, 1) := by decide +kernel
theorem d_Nodes_leaf_24 : decode prog_5_method_10_code 24 = .ok (.getfield 11, 3) := by decide +kernel
theorem d_Nodes_leaf_27 : decode prog_5_method_10_code 27 = .ok (.iload 5, 2) := by decide +kernel
theorem d_Nodes_leaf_29 : decode prog_5_method_10_code 29 = .ok (.iload_n 1, 1) := by decide +kernel
theorem d_Nodes_leaf_30 : decode prog_5_method_10_code 30 = .ok (.iastore, 1) := by decide +kernel
theorem d_Nodes_leaf_31 : decode prog_5_method_10_code 31 = .ok (.aload_n 0, 1) := by decide +kernel
theorem d_Nodes_leaf_32 : decode prog_5_method_10_code 32 = .ok (.getfield 15, 3) := by decide +kernel
theorem d_Nodes_leaf_35 : decode prog_5_method_10_code 35 = .ok (.iload 5, 2) := by decide +kernel
theorem d_Nodes_leaf_37 : decode prog_5_method_10_code 37 = .ok (.iload_n 2, 1) := by decide +kernel
theorem d_Nodes_leaf_38 : decode prog_5_method_10_code 38 = .ok (.iastore, 1) := by decide +kernel
theorem d_Nodes_leaf_39 : decode prog_5_method_10_code 39 = .ok (.aload_n 0, 1) := by decide +kernel
theorem d_Nodes_leaf_40 : decode prog_5_method_10_code 40 = .ok (.getfield 18, 3) := by decide +kernel
theorem d_Nodes_leaf_43 : decode prog_5_method_10_code 43 = .ok (.iload 5, 2) := by decide +kernel
theorem d_Nodes_leaf_45 : decode prog_5_method_10_code 45 = .ok (.iconst (-1), 1) := by decide +kernel
theorem d_Nodes_leaf_46 : decode prog_5_method_10_code 46 = .ok (.iastore, 1) := by decide +kernel
theorem d_Nodes_leaf_47 : decode prog_5_method_10_code 47 = .ok (.aload_n 0, 1) := by decide +kernel
theorem d_Nodes_leaf_48 : decode prog_5_method_10_code 48 = .ok (.getfield 21, 3) := by decide +kernel
theorem d_Nodes_leaf_51 : decode prog_5_method_10_code 51 = .ok (.iload 5, 2) := by decide +kernel
theorem d_Nodes_leaf_53 : decode prog_5_method_10_code 53 = .ok (.iconst 0, 1) := by decide +kernel
theorem d_Nodes_leaf_54 : decode prog_5_method_10_code 54 = .ok (.iastore, 1) := by decide +kernel
theorem d_Nodes_leaf_55 : decode prog_5_method_10_code 55 = .ok (.aload_n 0, 1) := by decide +kernel
theorem d_Nodes_leaf_56 : decode prog_5_method_10_code 56 = .ok (.getfield 24, 3) := by decide +kernel
theorem d_Nodes_leaf_59 : decode prog_5_method_10_code 59 = .ok (.iload 5, 2) := by decide +kernel
theorem d_Nodes_leaf_61 : decode prog_5_method_10_code 61 = .ok (.iconst (-1), 1) := by decide +kernel
theorem d_Nodes_leaf_62 : decode prog_5_method_10_code 62 = .ok (.iastore, 1) := by decide +kernel
theorem d_Nodes_leaf_63 : decode prog_5_method_10_code 63 = .ok (.aload_n 0, 1) := by decide +kernel
theorem d_Nodes_leaf_64 : decode prog_5_method_10_code 64 = .ok (.getfield 27, 3) := by decide +kernel
theorem d_Nodes_leaf_67 : decode prog_5_method_10_code 67 = .ok (.iload 5, 2) := by decide +kernel
theorem d_Nodes_leaf_69 : decode prog_5_method_10_code 69 = .ok (.iconst 0, 1) := by decide +kernel
theorem d_Nodes_leaf_70 : decode prog_5_method_10_code 70 = .ok (.iastore, 1) := by decide +kernel
theorem d_Nodes_leaf_71 : decode prog_5_method_10_code 71 = .ok (.aload_n 0, 1) := by decide +kernel
theorem d_Nodes_leaf_72 : decode prog_5_method_10_code 72 = .ok (.getfield 30, 3) := by decide +kernel
theorem d_Nodes_leaf_75 : decode prog_5_method_10_code 75 = .ok (.iload 5, 2) := by decide +kernel
theorem d_Nodes_leaf_77 : decode prog_5_method_10_code 77 = .ok (.iconst 0, 1) := by decide +kernel
theorem d_Nodes_leaf_78 : decode prog_5_method_10_code 78 = .ok (.iastore, 1) := by decide +kernel
theorem d_Nodes_leaf_79 : decode prog_5_method_10_code 79 = .ok (.aload_n 0, 1) := by decide +kernel
theorem d_Nodes_leaf_80 : decode prog_5_method_10_code 80 = .ok (.getfield 33, 3) := by decide +kernel
theorem d_Nodes_leaf_83 : decode prog_5_method_10_code 83 = .ok (.iload 5, 2) := by decide +kernel
theorem d_Nodes_leaf_85 : decode prog_5_method_10_code 85 = .ok (.iload_n 3, 1) := by decide +kernel
theorem d_Nodes_leaf_86 : decode prog_5_method_10_code 86 = .ok (.iastore, 1) := by decide +kernel
theorem d_Nodes_leaf_87 : decode prog_5_method_10_code 87 = .ok (.aload_n 0, 1) := by decide +kernel
theorem d_Nodes_leaf_88 : decode prog_5_method_10_code 88 = .ok (.getfield 36, 3) := by decide +kernel
theorem d_Nodes_leaf_91 : decode prog_5_method_10_code 91 = .ok (.iload 5, 2) := by decide +kernel
theorem d_Nodes_leaf_93 : decode prog_5_method_10_code 93 = .ok (.iload 4, 2) := by decide +kernel
theorem d_Nodes_leaf_95 : decode prog_5_method_10_code 95 = .ok (.iastore, 1) := by decide +kernel
theorem d_Nodes_leaf_96 : decode prog_5_method_10_code 96 = .ok (.aload_n 0, 1) := by decide +kernel
theorem d_Nodes_leaf_97 : decode prog_5_method_10_code 97 = .ok (.dup, 1) := by decide +kernel
theorem d_Nodes_leaf_98 : decode prog_5_method_10_code 98 = .ok (.getfield 39, 3) := by decide +kernel
theorem d_Nodes_leaf_101 : decode prog_5_method_10_code 101 = .ok (.iconst 1, 1) := by decide +kernel
theorem d_Nodes_leaf_102 : decode prog_5_method_10_code 102 = .ok (.iadd, 1) := by decide +kernel
theorem d_Nodes_leaf_103 : decode prog_5_method_10_code 103 = .ok (.putfield 39, 3) := by decide +kernel
theorem d_Nodes_leaf_106 : decode prog_5_method_10_code 106 = .ok (.iload 5, 2) := by decide +kernel
theorem d_Nodes_leaf_108 : decode prog_5_method_10_code 108 = .ok (.ireturn, 1) := by decide +kernel
theorem d_Nodes_needOf_0 : decode prog_5_method_17_code 0 = .ok (.iload_n 1, 1) := by decide +kernel
theorem d_Nodes_needOf_1 : decode prog_5_method_17_code 1 = .ok (.ifCond .lt 20, 3) := by decide +kernel
theorem d_Nodes_needOf_4 : decode prog_5_method_17_code 4 = .ok (.iload_n 1, 1) := by decide +kernel
theorem d_Nodes_needOf_5 : decode prog_5_method_17_code 5 = .ok (.aload_n 0, 1) := by decide +kernel
theorem d_Nodes_needOf_6 : decode prog_5_method_17_code 6 = .ok (.getfield 39, 3) := by decide +kernel
theorem d_Nodes_needOf_9 : decode prog_5_method_17_code 9 = .ok (.if_icmp .ge 12, 3) := by decide +kernel
theorem d_Nodes_needOf_12 : decode prog_5_method_17_code 12 = .ok (.aload_n 0, 1) := by decide +kernel
theorem d_Nodes_needOf_13 : decode prog_5_method_17_code 13 = .ok (.getfield 27, 3) := by decide +kernel
theorem d_Nodes_needOf_16 : decode prog_5_method_17_code 16 = .ok (.iload_n 1, 1) := by decide +kernel
theorem d_Nodes_needOf_17 : decode prog_5_method_17_code 17 = .ok (.iaload, 1) := by decide +kernel
theorem d_Nodes_needOf_18 : decode prog_5_method_17_code 18 = .ok (.goto 4, 3) := by decide +kernel
theorem d_Nodes_needOf_21 : decode prog_5_method_17_code 21 = .ok (.iconst 0, 1) := by decide +kernel
theorem d_Nodes_needOf_22 : decode prog_5_method_17_code 22 = .ok (.ireturn, 1) := by decide +kernel
theorem d_Nodes_parentOf_0 : decode prog_5_method_16_code 0 = .ok (.iload_n 1, 1) := by decide +kernel
theorem d_Nodes_parentOf_1 : decode prog_5_method_16_code 1 = .ok (.ifCond .lt 20, 3) := by decide +kernel
theorem d_Nodes_parentOf_4 : decode prog_5_method_16_code 4 = .ok (.iload_n 1, 1) := by decide +kernel
theorem d_Nodes_parentOf_5 : decode prog_5_method_16_code 5 = .ok (.aload_n 0, 1) := by decide +kernel
theorem d_Nodes_parentOf_6 : decode prog_5_method_16_code 6 = .ok (.getfield 39, 3) := by decide +kernel
theorem d_Nodes_parentOf_9 : decode prog_5_method_16_code 9 = .ok (.if_icmp .ge 12, 3) := by decide +kernel
theorem d_Nodes_parentOf_12 : decode prog_5_method_16_code 12 = .ok (.aload_n 0, 1) := by decide +kernel
theorem d_Nodes_parentOf_13 : decode prog_5_method_16_code 13 = .ok (.getfield 24, 3) := by decide +kernel
theorem d_Nodes_parentOf_16 : decode prog_5_method_16_code 16 = .ok (.iload_n 1, 1) := by decide +kernel
theorem d_Nodes_parentOf_17 : decode prog_5_method_16_code 17 = .ok (.iaload, 1) := by decide +kernel
theorem d_Nodes_parentOf_18 : decode prog_5_method_16_code 18 = .ok (.goto 4, 3) := by decide +kernel
theorem d_Nodes_parentOf_21 : decode prog_5_method_16_code 21 = .ok (.iconst (-1), 1) := by decide +kernel
theorem d_Nodes_parentOf_22 : decode prog_5_method_16_code 22 = .ok (.ireturn, 1) := by decide +kernel
theorem d_Nodes_putFault_0 : decode prog_5_method_23_code 0 = .ok (.iload_n 1, 1) := by decide +kernel
theorem d_Nodes_putFault_1 : decode prog_5_method_23_code 1 = .ok (.ifCond .lt 18, 3) := by decide +kernel
theorem d_Nodes_putFault_4 : decode prog_5_method_23_code 4 = .ok (.iload_n 1, 1) := by decide +kernel
theorem d_Nodes_putFault_5 : decode prog_5_method_23_code 5 = .ok (.aload_n 0, 1) := by decide +kernel
theorem d_Nodes_putFault_6 : decode prog_5_method_23_code 6 = .ok (.getfield 39, 3) := by decide +kernel
theorem d_Nodes_putFault_9 : decode prog_5_method_23_code 9 = .ok (.if_icmp .ge 10, 3) := by decide +kernel
theorem d_Nodes_putFault_12 : decode prog_5_method_23_code 12 = .ok (.aload_n 0, 1) := by decide +kernel
theorem d_Nodes_putFault_13 : decode prog_5_method_23_code 13 = .ok (.getfield 30, 3) := by decide +kernel
theorem d_Nodes_putFault_16 : decode prog_5_method_23_code 16 = .ok (.iload_n 1, 1) := by decide +kernel
theorem d_Nodes_putFault_17 : decode prog_5_method_23_code 17 = .ok (.iload_n 2, 1) := by decide +kernel
theorem d_Nodes_putFault_18 : decode prog_5_method_23_code 18 = .ok (.iastore, 1) := by decide +kernel
theorem d_Nodes_putFault_19 : decode prog_5_method_23_code 19 = .ok (.return_, 1) := by decide +kernel
theorem d_Nodes_putNeed_0 : decode prog_5_method_22_code 0 = .ok (.iload_n 1, 1) := by decide +kernel
theorem d_Nodes_putNeed_1 : decode prog_5_method_22_code 1 = .ok (.ifCond .lt 18, 3) := by decide +kernel
theorem d_Nodes_putNeed_4 : decode prog_5_method_22_code 4 = .ok (.iload_n 1, 1) := by decide +kernel
theorem d_Nodes_putNeed_5 : decode prog_5_method_22_code 5 = .ok (.aload_n 0, 1) := by decide +kernel
theorem d_Nodes_putNeed_6 : decode prog_5_method_22_code 6 = .ok (.getfield 39, 3) := by decide +kernel
theorem d_Nodes_putNeed_9 : decode prog_5_method_22_code 9 = .ok (.if_icmp .ge 10, 3) := by decide +kernel
theorem d_Nodes_putNeed_12 : decode prog_5_method_22_code 12 = .ok (.aload_n 0, 1) := by decide +kernel
theorem d_Nodes_putNeed_13 : decode prog_5_method_22_code 13 = .ok (.getfield 27, 3) := by decide +kernel
theorem d_Nodes_putNeed_16 : decode prog_5_method_22_code 16 = .ok (.iload_n 1, 1) := by decide +kernel
theorem d_Nodes_putNeed_17 : decode prog_5_method_22_code 17 = .ok (.iload_n 2, 1) := by decide +kernel
theorem d_Nodes_putNeed_18 : decode prog_5_method_22_code 18 = .ok (.iastore, 1) := by decide +kernel
theorem d_Nodes_putNeed_19 : decode prog_5_method_22_code 19 = .ok (.return_, 1) := by decide +kernel
theorem d_Nodes_putPlace_0 : decode prog_5_method_24_code 0 = .ok (.iload_n 1, 1) := by decide +kernel
theorem d_Nodes_putPlace_1 : decode prog_5_method_24_code 1 = .ok (.ifCond .lt 25, 3) := by decide +kernel
theorem d_Nodes_putPlace_4 : decode prog_5_method_24_code 4 = .ok (.iload_n 1, 1) := by decide +kernel
theorem d_Nodes_putPlace_5 : decode prog_5_method_24_code 5 = .ok (.aload_n 0, 1) := by decide +kernel
theorem d_Nodes_putPlace_6 : decode prog_5_method_24_code 6 = .ok (.getfield 39, 3) := by decide +kernel
theorem d_Nodes_putPlace_9 : decode prog_5_method_24_code 9 = .ok (.if_icmp .ge 17, 3) := by decide +kernel
theorem d_Nodes_putPlace_12 : decode prog_5_method_24_code 12 = .ok (.aload_n 0, 1) := by decide +kernel
theorem d_Nodes_putPlace_13 : decode prog_5_method_24_code 13 = .ok (.getfield 15, 3) := by decide +kernel
theorem d_Nodes_putPlace_16 : decode prog_5_method_24_code 16 = .ok (.iload_n 1, 1) := by decide +kernel
theorem d_Nodes_putPlace_17 : decode prog_5_method_24_code 17 = .ok (.iload_n 2, 1) := by decide +kernel
theorem d_Nodes_putPlace_18 : decode prog_5_method_24_code 18 = .ok (.iastore, 1) := by decide +kernel
theorem d_Nodes_putPlace_19 : decode prog_5_method_24_code 19 = .ok (.aload_n 0, 1) := by decide +kernel
theorem d_Nodes_putPlace_20 : decode prog_5_method_24_code 20 = .ok (.getfield 18, 3) := by decide +kernel
theorem d_Nodes_putPlace_23 : decode prog_5_method_24_code 23 = .ok (.iload_n 1, 1) := by decide +kernel
theorem d_Nodes_putPlace_24 : decode prog_5_method_24_code 24 = .ok (.iload_n 3, 1) := by decide +kernel
theorem d_Nodes_putPlace_25 : decode prog_5_method_24_code 25 = .ok (.iastore, 1) := by decide +kernel
theorem d_Nodes_putPlace_26 : decode prog_5_method_24_code 26 = .ok (.return_, 1) := by decide +kernel
theorem d_Nodes_putType_0 : decode prog_5_method_21_code 0 = .ok (.iload_n 1, 1) := by decide +kernel
theorem d_Nodes_putType_1 : decode prog_5_method_21_code 1 = .ok (.ifCond .lt 18, 3) := by decide +kernel
theorem d_Nodes_putType_4 : decode prog_5_method_21_code 4 = .ok (.iload_n 1, 1) := by decide +kernel
theorem d_Nodes_putType_5 : decode prog_5_method_21_code 5 = .ok (.aload_n 0, 1) := by decide +kernel
theorem d_Nodes_putType_6 : decode prog_5_method_21_code 6 = .ok (.getfield 39, 3) := by decide +kernel
theorem d_Nodes_putType_9 : decode prog_5_method_21_code 9 = .ok (.if_icmp .ge 10, 3) := by decide +kernel
theorem d_Nodes_putType_12 : decode prog_5_method_21_code 12 = .ok (.aload_n 0, 1) := by decide +kernel
theorem d_Nodes_putType_13 : decode prog_5_method_21_code 13 = .ok (.getfield 21, 3) := by decide +kernel
theorem d_Nodes_putType_16 : decode prog_5_method_21_code 16 = .ok (.iload_n 1, 1) := by decide +kernel
theorem d_Nodes_putType_17 : decode prog_5_method_21_code 17 = .ok (.iload_n 2, 1) := by decide +kernel
theorem d_Nodes_putType_18 : decode prog_5_method_21_code 18 = .ok (.iastore, 1) := by decide +kernel
theorem d_Nodes_putType_19 : decode prog_5_method_21_code 19 = .ok (.return_, 1) := by decide +kernel
theorem d_Nodes_qualifierOf_0 : decode prog_5_method_20_code 0 = .ok (.iload_n 1, 1) := by decide +kernel
theorem d_Nodes_qualifierOf_1 : decode prog_5_method_20_code 1 = .ok (.ifCond .lt 20, 3) := by decide +kernel
theorem d_Nodes_qualifierOf_4 : decode prog_5_method_20_code 4 = .ok (.iload_n 1, 1) := by decide +kernel
theorem d_Nodes_qualifierOf_5 : decode prog_5_method_20_code 5 = .ok (.aload_n 0, 1) := by decide +kernel
theorem d_Nodes_qualifierOf_6 : decode prog_5_method_20_code 6 = .ok (.getfield 39, 3) := by decide +kernel
theorem d_Nodes_qualifierOf_9 : decode prog_5_method_20_code 9 = .ok (.if_icmp .ge 12, 3) := by decide +kernel
theorem d_Nodes_qualifierOf_12 : decode prog_5_method_20_code 12 = .ok (.aload_n 0, 1) := by decide +kernel
theorem d_Nodes_qualifierOf_13 : decode prog_5_method_20_code 13 = .ok (.getfield 36, 3) := by decide +kernel
theorem d_Nodes_qualifierOf_16 : decode prog_5_method_20_code 16 = .ok (.iload_n 1, 1) := by decide +kernel
theorem d_Nodes_qualifierOf_17 : decode prog_5_method_20_code 17 = .ok (.iaload, 1) := by decide +kernel
theorem d_Nodes_qualifierOf_18 : decode prog_5_method_20_code 18 = .ok (.goto 4, 3) := by decide +kernel
theorem d_Nodes_qualifierOf_21 : decode prog_5_method_20_code 21 = .ok (.iconst (-1), 1) := by decide +kernel
theorem d_Nodes_qualifierOf_22 : decode prog_5_method_20_code 22 = .ok (.ireturn, 1) := by decide +kernel
theorem d_Nodes_secondOf_0 : decode prog_5_method_14_code 0 = .ok (.iload_n 1, 1) := by decide +kernel
theorem d_Nodes_secondOf_1 : decode prog_5_method_14_code 1 = .ok (.ifCond .lt 20, 3) := by decide +kernel
theorem d_Nodes_secondOf_4 : decode prog_5_method_14_code 4 = .ok (.iload_n 1, 1) := by decide +kernel
theorem d_Nodes_secondOf_5 : decode prog_5_method_14_code 5 = .ok (.aload_n 0, 1) := by decide +kernel
theorem d_Nodes_secondOf_6 : decode prog_5_method_14_code 6 = .ok (.getfield 39, 3) := by decide +kernel
theorem d_Nodes_secondOf_9 : decode prog_5_method_14_code 9 = .ok (.if_icmp .ge 12, 3) := by decide +kernel
theorem d_Nodes_secondOf_12 : decode prog_5_method_14_code 12 = .ok (.aload_n 0, 1) := by decide +kernel
theorem d_Nodes_secondOf_13 : decode prog_5_method_14_code 13 = .ok (.getfield 18, 3) := by decide +kernel
theorem d_Nodes_secondOf_16 : decode prog_5_method_14_code 16 = .ok (.iload_n 1, 1) := by decide +kernel
theorem d_Nodes_secondOf_17 : decode prog_5_method_14_code 17 = .ok (.iaload, 1) := by decide +kernel
theorem d_Nodes_secondOf_18 : decode prog_5_method_14_code 18 = .ok (.goto 4, 3) := by decide +kernel
theorem d_Nodes_secondOf_21 : decode prog_5_method_14_code 21 = .ok (.iconst (-1), 1) := by decide +kernel
theorem d_Nodes_secondOf_22 : decode prog_5_method_14_code 22 = .ok (.ireturn, 1) := by decide +kernel
theorem d_Nodes_size_0 : decode prog_5_method_6_code 0 = .ok (.aload_n 0, 1) := by decide +kernel
theorem d_Nodes_size_1 : decode prog_5_method_6_code 1 = .ok (.getfield 39, 3) := by decide +kernel
theorem d_Nodes_size_4 : decode prog_5_method_6_code 4 = .ok (.ireturn, 1) := by decide +kernel
theorem d_Nodes_spanOf_0 : decode prog_5_method_19_code 0 = .ok (.iload_n 1, 1) := by decide +kernel
theorem d_Nodes_spanOf_1 : decode prog_5_method_19_code 1 = .ok (.ifCond .lt 20, 3) := by decide +kernel
theorem d_Nodes_spanOf_4 : decode prog_5_method_19_code 4 = .ok (.iload_n 1, 1) := by decide +kernel
theorem d_Nodes_spanOf_5 : decode prog_5_method_19_code 5 = .ok (.aload_n 0, 1) := by decide +kernel
theorem d_Nodes_spanOf_6 : decode prog_5_method_19_code 6 = .ok (.getfield 39, 3) := by decide +kernel
theorem d_Nodes_spanOf_9 : decode prog_5_method_19_code 9 = .ok (.if_icmp .ge 12, 3) := by decide +kernel
theorem d_Nodes_spanOf_12 : decode prog_5_method_19_code 12 = .ok (.aload_n 0, 1) := by decide +kernel
theorem d_Nodes_spanOf_13 : decode prog_5_method_19_code 13 = .ok (.getfield 33, 3) := by decide +kernel
theorem d_Nodes_spanOf_16 : decode prog_5_method_19_code 16 = .ok (.iload_n 1, 1) := by decide +kernel
theorem d_Nodes_spanOf_17 : decode prog_5_method_19_code 17 = .ok (.iaload, 1) := by decide +kernel
theorem d_Nodes_spanOf_18 : decode prog_5_method_19_code 18 = .ok (.goto 4, 3) := by decide +kernel
theorem d_Nodes_spanOf_21 : decode prog_5_method_19_code 21 = .ok (.iconst (-1), 1) := by decide +kernel
theorem d_Nodes_spanOf_22 : decode prog_5_method_19_code 22 = .ok (.ireturn, 1) := by decide +kernel
theorem d_Nodes_top_0 : decode prog_5_method_9_code 0 = .ok (.iload_n 2, 1) := by decide +kernel
theorem d_Nodes_top_1 : decode prog_5_method_9_code 1 = .ok (.ifCond .ge 5, 3) := by decide +kernel
theorem d_Nodes_top_4 : decode prog_5_method_9_code 4 = .ok (.iconst (-1), 1) := by decide +kernel
theorem d_Nodes_top_5 : decode prog_5_method_9_code 5 = .ok (.ireturn, 1) := by decide +kernel
theorem d_Nodes_top_6 : decode prog_5_method_9_code 6 = .ok (.aload_n 0, 1) := by decide +kernel
theorem d_Nodes_top_7 : decode prog_5_method_9_code 7 = .ok (.iload_n 1, 1) := by decide +kernel
theorem d_Nodes_top_8 : decode prog_5_method_9_code 8 = .ok (.iload_n 2, 1) := by decide +kernel
theorem d_Nodes_top_9 : decode prog_5_method_9_code 9 = .ok (.iconst (-1), 1) := by decide +kernel
theorem d_Nodes_top_10 : decode prog_5_method_9_code 10 = .ok (.iconst (-1), 1) := by decide +kernel
theorem d_Nodes_top_11 : decode prog_5_method_9_code 11 = .ok (.invokevirtual 47, 3) := by decide +kernel
theorem d_Nodes_top_14 : decode prog_5_method_9_code 14 = .ok (.istore_n 3, 1) := by decide +kernel
theorem d_Nodes_top_15 : decode prog_5_method_9_code 15 = .ok (.aload_n 0, 1) := by decide +kernel
theorem d_Nodes_top_16 : decode prog_5_method_9_code 16 = .ok (.getfield 43, 3) := by decide +kernel
theorem d_Nodes_top_19 : decode prog_5_method_9_code 19 = .ok (.ifCond .ne 9, 3) := by decide +kernel
theorem d_Nodes_top_22 : decode prog_5_method_9_code 22 = .ok (.aload_n 0, 1) := by decide +kernel
theorem d_Nodes_top_23 : decode prog_5_method_9_code 23 = .ok (.iload_n 2, 1) := by decide +kernel
theorem d_Nodes_top_24 : decode prog_5_method_9_code 24 = .ok (.iload_n 3, 1) := by decide +kernel
theorem d_Nodes_top_25 : decode prog_5_method_9_code 25 = .ok (.invokevirtual 51, 3) := by decide +kernel
theorem d_Nodes_top_28 : decode prog_5_method_9_code 28 = .ok (.iload_n 3, 1) := by decide +kernel
theorem d_Nodes_top_29 : decode prog_5_method_9_code 29 = .ok (.ireturn, 1) := by decide +kernel
theorem d_Nodes_typeOf_0 : decode prog_5_method_15_code 0 = .ok (.iload_n 1, 1) := by decide +kernel
theorem d_Nodes_typeOf_1 : decode prog_5_method_15_code 1 = .ok (.ifCond .lt 20, 3) := by decide +kernel
theorem d_Nodes_typeOf_4 : decode prog_5_method_15_code 4 = .ok (.iload_n 1, 1) := by decide +kernel
theorem d_Nodes_typeOf_5 : decode prog_5_method_15_code 5 = .ok (.aload_n 0, 1) := by decide +kernel
theorem d_Nodes_typeOf_6 : decode prog_5_method_15_code 6 = .ok (.getfield 39, 3) := by decide +kernel
theorem d_Nodes_typeOf_9 : decode prog_5_method_15_code 9 = .ok (.if_icmp .ge 12, 3) := by decide +kernel
theorem d_Nodes_typeOf_12 : decode prog_5_method_15_code 12 = .ok (.aload_n 0, 1) := by decide +kernel
theorem d_Nodes_typeOf_13 : decode prog_5_method_15_code 13 = .ok (.getfield 21, 3) := by decide +kernel
theorem d_Nodes_typeOf_16 : decode prog_5_method_15_code 16 = .ok (.iload_n 1, 1) := by decide +kernel
theorem d_Nodes_typeOf_17 : decode prog_5_method_15_code 17 = .ok (.iaload, 1) := by decide +kernel
theorem d_Nodes_typeOf_18 : decode prog_5_method_15_code 18 = .ok (.goto 4, 3) := by decide +kernel
theorem d_Nodes_typeOf_21 : decode prog_5_method_15_code 21 = .ok (.iconst (-1), 1) := by decide +kernel
theorem d_Nodes_typeOf_22 : decode prog_5_method_15_code 22 = .ok (.ireturn, 1) := by decide +kernel
theorem d_Nodes_works_0 : decode prog_5_method_2_code 0 = .ok (.iload_n 0, 1) := by decide +kernel
theorem d_Nodes_works_1 : decode prog_5_method_2_code 1 = .ok (.bipush 6, 2) := by decide +kernel
theorem d_Nodes_works_3 : decode prog_5_method_2_code 3 = .ok (.if_icmp .lt 13, 3) := by decide +kernel
theorem d_Nodes_works_6 : decode prog_5_method_2_code 6 = .ok (.iload_n 0, 1) := by decide +kernel
theorem d_Nodes_works_7 : decode prog_5_method_2_code 7 = .ok (.bipush 27, 2) := by decide +kernel
theorem d_Nodes_works_9 : decode prog_5_method_2_code 9 = .ok (.if_icmp .gt 7, 3) := by decide +kernel
theorem d_Nodes_works_12 : decode prog_5_method_2_code 12 = .ok (.iconst 1, 1) := by decide +kernel
theorem d_Nodes_works_13 : decode prog_5_method_2_code 13 = .ok (.goto 4, 3) := by decide +kernel
theorem d_Nodes_works_16 : decode prog_5_method_2_code 16 = .ok (.iconst 0, 1) := by decide +kernel
theorem d_Nodes_works_17 : decode prog_5_method_2_code 17 = .ok (.ireturn, 1) := by decide +kernel
theorem d_Parser_aggregate_0 : decode prog_6_method_39_code 0 = .ok (.aload_n 0, 1) := by decide +kernel
theorem d_Parser_aggregate_1 : decode prog_6_method_39_code 1 = .ok (.getfield 9, 3) := by decide +kernel
theorem d_Parser_aggregate_4 : decode prog_6_method_39_code 4 = .ok (.ldc_w 367, 3) := by decide +kernel
theorem d_Parser_aggregate_7 : decode prog_6_method_39_code 7 = .ok (.invokevirtual 29, 3) := by decide +kernel
theorem d_Parser_aggregate_10 : decode prog_6_method_39_code 10 = .ok (.ifCond .eq 6, 3) := by decide +kernel
theorem d_Parser_aggregate_13 : decode prog_6_method_39_code 13 = .ok (.bipush 6, 2) := by decide +kernel
theorem d_Parser_aggregate_15 : decode prog_6_method_39_code 15 = .ok (.ireturn, 1) := by decide +kernel
theorem d_Parser_aggregate_16 : decode prog_6_method_39_code 16 = .ok (.aload_n 0, 1) := by decide +kernel
theorem d_Parser_aggregate_17 : decode prog_6_method_39_code 17 = .ok (.getfield 9, 3) := by decide +kernel
theorem d_Parser_aggregate_20 : decode prog_6_method_39_code 20 = .ok (.ldc_w 369, 3) := by decide +kernel
theorem d_Parser_aggregate_23 : decode prog_6_method_39_code 23 = .ok (.invokevirtual 29, 3) := by decide +kernel
theorem d_Parser_aggregate_26 : decode prog_6_method_39_code 26 = .ok (.ifCond .eq 6, 3) := by decide +kernel
theorem d_Parser_aggregate_29 : decode prog_6_method_39_code 29 = .ok (.bipush 7, 2) := by decide +kernel
theorem d_Parser_aggregate_31 : decode prog_6_method_39_code 31 = .ok (.ireturn, 1) := by decide +kernel
theorem d_Parser_aggregate_32 : decode prog_6_method_39_code 32 = .ok (.aload_n 0, 1) := by decide +kernel
theorem d_Parser_aggregate_33 : decode prog_6_method_39_code 33 = .ok (.getfield 9, 3) := by decide +kernel
theorem d_Parser_aggregate_36 : decode prog_6_method_39_code 36 = .ok (.ldc_w 371, 3) := by decide +kernel
theorem d_Parser_aggregate_39 : decode prog_6_method_39_code 39 = .ok (.invokevirtual 29, 3) := by decide +kernel
theorem d_Parser_aggregate_42 : decode prog_6_method_39_code 42 = .ok (.ifCond .eq 6, 3) := by decide +kernel
theorem d_Parser_aggregate_45 : decode prog_6_method_39_code 45 = .ok (.bipush 8, 2) := by decide +kernel
theorem d_Parser_aggregate_47 : decode prog_6_method_39_code 47 = .ok (.ireturn, 1) := by decide +kernel
theorem d_Parser_aggregate_48 : decode prog_6_method_39_code 48 = .ok (.aload_n 0, 1) := by decide +kernel
theorem d_Parser_aggregate_49 : decode prog_6_method_39_code 49 = .ok (.getfield 9, 3) := by decide +kernel
theorem d_Parser_aggregate_52 : decode prog_6_method_39_code 52 = .ok (.ldc_w 373, 3) := by decide +kernel
theorem d_Parser_aggregate_55 : decode prog_6_method_39_code 55 = .ok (.invokevirtual 29, 3) := by decide +kernel
theorem d_Parser_aggregate_58 : decode prog_6_method_39_code 58 = .ok (.ifCond .eq 8, 3) := by decide +kernel
theorem d_Parser_aggregate_61 : decode prog_6_method_39_code 61 = .ok (.bipush 9, 2) := by decide +kernel
theorem d_Parser_aggregate_63 : decode prog_6_method_39_code 63 = .ok (.goto 4, 3) := by decide +kernel
theorem d_Parser_aggregate_66 : decode prog_6_method_39_code 66 = .ok (.iconst (-1), 1) := by decide +kernel
theorem d_Parser_aggregate_67 : decode prog_6_method_39_code 67 = .ok (.ireturn, 1) := by decide +kernel
theorem d_Parser_aggregated_0 : decode prog_6_method_38_code 0 = .ok (.aload_n 0, 1) := by decide +kernel
theorem d_Parser_aggregated_1 : decode prog_6_method_38_code 1 = .ok (.getfield 9, 3) := by decide +kernel
theorem d_Parser_aggregated_4 : decode prog_6_method_38_code 4 = .ok (.ldc 150, 2) := by decide +kernel
theorem d_Parser_aggregated_6 : decode prog_6_method_38_code 6 = .ok (.invokevirtual 29, 3) := by decide +kernel
theorem d_Parser_aggregated_9 : decode prog_6_method_38_code 9 = .ok (.ifCond .ne 5, 3) := by decide +kernel
theorem d_Parser_aggregated_12 : decode prog_6_method_38_code 12 = .ok (.iconst (-1), 1) := by decide +kernel
theorem d_Parser_aggregated_13 : decode prog_6_method_38_code 13 = .ok (.ireturn, 1) := by decide +kernel
theorem d_Parser_aggregated_14 : decode prog_6_method_38_code 14 = .ok (.iload_n 1, 1) := by decide +kernel
theorem d_Parser_aggregated_15 : decode prog_6_method_38_code 15 = .ok (.bipush 6, 2) := by decide +kernel
theorem d_Parser_aggregated_17 : decode prog_6_method_38_code 17 = .ok (.if_icmp .ne 29, 3) := by decide +kernel
theorem d_Parser_aggregated_20 : decode prog_6_method_38_code 20 = .ok (.aload_n 0, 1) := by decide +kernel
theorem d_Parser_aggregated_21 : decode prog_6_method_38_code 21 = .ok (.getfield 9, 3) := by decide +kernel
theorem d_Parser_aggregated_24 : decode prog_6_method_38_code 24 = .ok (.ldc 216, 2) := by decide +kernel
theorem d_Parser_aggregated_26 : decode prog_6_method_38_code 26 = .ok (.invokevirtual 29, 3) := by decide +kernel
theorem d_Parser_aggregated_29 : decode prog_6_method_38_code 29 = .ok (.ifCond .eq 17, 3) := by decide +kernel
theorem d_Parser_aggregated_32 : decode prog_6_method_38_code 32 = .ok (.aload_n 0, 1) := by decide +kernel
theorem d_Parser_aggregated_33 : decode prog_6_method_38_code 33 = .ok (.getfield 15, 3) := by decide +kernel
theorem d_Parser_aggregated_36 : decode prog_6_method_38_code 36 = .ok (.iconst 5, 1) := by decide +kernel
theorem d_Parser_aggregated_37 : decode prog_6_method_38_code 37 = .ok (.iconst (-1), 1) := by decide +kernel
theorem d_Parser_aggregated_38 : decode prog_6_method_38_code 38 = .ok (.iconst (-1), 1) := by decide +kernel
theorem d_Parser_aggregated_39 : decode prog_6_method_38_code 39 = .ok (.iconst (-1), 1) := by decide +kernel
theorem d_Parser_aggregated_40 : decode prog_6_method_38_code 40 = .ok (.invokevirtual 365, 3) := by decide +kernel
theorem d_Parser_aggregated_43 : decode prog_6_method_38_code 43 = .ok (.goto 19, 3) := by decide +kernel
theorem d_Parser_aggregated_46 : decode prog_6_method_38_code 46 = .ok (.aload_n 0, 1) := by decide +kernel
theorem d_Parser_aggregated_47 : decode prog_6_method_38_code 47 = .ok (.getfield 15, 3) := by decide +kernel
theorem d_Parser_aggregated_50 : decode prog_6_method_38_code 50 = .ok (.iload_n 1, 1) := by decide +kernel
theorem d_Parser_aggregated_51 : decode prog_6_method_38_code 51 = .ok (.aload_n 0, 1) := by decide +kernel
theorem d_Parser_aggregated_52 : decode prog_6_method_38_code 52 = .ok (.iconst 1, 1) := by decide +kernel
theorem d_Parser_aggregated_53 : decode prog_6_method_38_code 53 = .ok (.iload_n 2, 1) := by decide +kernel
theorem d_Parser_aggregated_54 : decode prog_6_method_38_code 54 = .ok (.iconst 1, 1) := by decide +kernel
theorem d_Parser_aggregated_55 : decode prog_6_method_38_code 55 = .ok (.iadd, 1) := by decide +kernel
theorem d_Parser_aggregated_56 : decode prog_6_method_38_code 56 = .ok (.invokevirtual 192, 3) := by decide +kernel
theorem d_Parser_aggregated_59 : decode prog_6_method_38_code 59 = .ok (.invokevirtual 309, 3) := by decide +kernel
theorem d_Parser_aggregated_62 : decode prog_6_method_38_code 62 = .ok (.istore_n 3, 1) := by decide +kernel
theorem d_Parser_aggregated_63 : decode prog_6_method_38_code 63 = .ok (.aload_n 0, 1) := by decide +kernel
theorem d_Parser_aggregated_64 : decode prog_6_method_38_code 64 = .ok (.getfield 9, 3) := by decide +kernel
theorem d_Parser_aggregated_67 : decode prog_6_method_38_code 67 = .ok (.ldc 155, 2) := by decide +kernel
theorem d_Parser_aggregated_69 : decode prog_6_method_38_code 69 = .ok (.invokevirtual 29, 3) := by decide +kernel
theorem d_Parser_aggregated_72 : decode prog_6_method_38_code 72 = .ok (.ifCond .eq 7, 3) := by decide +kernel
theorem d_Parser_aggregated_75 : decode prog_6_method_38_code 75 = .ok (.iload_n 3, 1) := by decide +kernel
theorem d_Parser_aggregated_76 : decode prog_6_method_38_code 76 = .ok (.goto 4, 3) := by decide +kernel
theorem d_Parser_aggregated_79 : decode prog_6_method_38_code 79 = .ok (.iconst (-1), 1) := by decide +kernel
theorem d_Parser_aggregated_80 : decode prog_6_method_38_code 80 = .ok (.ireturn, 1) := by decide +kernel
theorem d_Parser_among_0 : decode prog_6_method_36_code 0 = .ok (.aload_n 0, 1) := by decide +kernel
theorem d_Parser_among_1 : decode prog_6_method_36_code 1 = .ok (.getfield 9, 3) := by decide +kernel
theorem d_Parser_among_4 : decode prog_6_method_36_code 4 = .ok (.ldc 150, 2) := by decide +kernel
theorem d_Parser_among_6 : decode prog_6_method_36_code 6 = .ok (.invokevirtual 29, 3) := by decide +kernel
theorem d_Parser_among_9 : decode prog_6_method_36_code 9 = .ok (.ifCond .ne 5, 3) := by decide +kernel
theorem d_Parser_among_12 : decode prog_6_method_36_code 12 = .ok (.iconst (-1), 1) := by decide +kernel
theorem d_Parser_among_13 : decode prog_6_method_36_code 13 = .ok (.ireturn, 1) := by decide +kernel
theorem d_Parser_among_14 : decode prog_6_method_36_code 14 = .ok (.aload_n 0, 1) := by decide +kernel
theorem d_Parser_among_15 : decode prog_6_method_36_code 15 = .ok (.getfield 15, 3) := by decide +kernel
theorem d_Parser_among_18 : decode prog_6_method_36_code 18 = .ok (.bipush 17, 2) := by decide +kernel
theorem d_Parser_among_20 : decode prog_6_method_36_code 20 = .ok (.iload_n 2, 1) := by decide +kernel
theorem d_Parser_among_21 : decode prog_6_method_36_code 21 = .ok (.aload_n 0, 1) := by decide +kernel
theorem d_Parser_among_22 : decode prog_6_method_36_code 22 = .ok (.iconst 1, 1) := by decide +kernel
theorem d_Parser_among_23 : decode prog_6_method_36_code 23 = .ok (.iload_n 3, 1) := by decide +kernel
theorem d_Parser_among_24 : decode prog_6_method_36_code 24 = .ok (.iconst 1, 1) := by decide +kernel
theorem d_Parser_among_25 : decode prog_6_method_36_code 25 = .ok (.iadd, 1) := by decide +kernel
theorem d_Parser_among_26 : decode prog_6_method_36_code 26 = .ok (.invokevirtual 192, 3) := by decide +kernel
theorem d_Parser_among_29 : decode prog_6_method_36_code 29 = .ok (.invokevirtual 335, 3) := by decide +kernel
theorem d_Parser_among_32 : decode prog_6_method_36_code 32 = .ok (.istore 4, 2) := by decide +kernel
theorem d_Parser_among_34 : decode prog_6_method_36_code 34 = .ok (.iconst 0, 1) := by decide +kernel
theorem d_Parser_among_35 : decode prog_6_method_36_code 35 = .ok (.istore 5, 2) := by decide +kernel
theorem d_Parser_among_37 : decode prog_6_method_36_code 37 = .ok (.iload 5, 2) := by decide +kernel
theorem d_Parser_among_39 : decode prog_6_method_36_code 39 = .ok (.sipush 2000, 3) := by decide +kernel
theorem d_Parser_among_42 : decode prog_6_method_36_code 42 = .ok (.if_icmp .ge 73, 3) := by decide +kernel
theorem d_Parser_among_45 : decode prog_6_method_36_code 45 = .ok (.iload 4, 2) := by decide +kernel
theorem d_Parser_among_47 : decode prog_6_method_36_code 47 = .ok (.ifCond .lt 68, 3) := by decide +kernel
theorem d_Parser_among_50 : decode prog_6_method_36_code 50 = .ok (.aload_n 0, 1) := by decide +kernel
theorem d_Parser_among_51 : decode prog_6_method_36_code 51 = .ok (.getfield 9, 3) := by decide +kernel
theorem d_Parser_among_54 : decode prog_6_method_36_code 54 = .ok (.ldc 162, 2) := by decide +kernel
theorem d_Parser_among_56 : decode prog_6_method_36_code 56 = .ok (.invokevirtual 29, 3) := by decide +kernel
theorem d_Parser_among_59 : decode prog_6_method_36_code 59 = .ok (.ifCond .eq 56, 3) := by decide +kernel
theorem d_Parser_among_62 : decode prog_6_method_36_code 62 = .ok (.aload_n 0, 1) := by decide +kernel
theorem d_Parser_among_63 : decode prog_6_method_36_code 63 = .ok (.getfield 15, 3) := by decide +kernel
theorem d_Parser_among_66 : decode prog_6_method_36_code 66 = .ok (.iload_n 1, 1) := by decide +kernel
theorem d_Parser_among_67 : decode prog_6_method_36_code 67 = .ok (.iload_n 2, 1) := by decide +kernel
theorem d_Parser_among_68 : decode prog_6_method_36_code 68 = .ok (.invokevirtual 351, 3) := by decide +kernel
theorem d_Parser_among_71 : decode prog_6_method_36_code 71 = .ok (.istore 6, 2) := by decide +kernel
theorem d_Parser_among_73 : decode prog_6_method_36_code 73 = .ok (.aload_n 0, 1) := by decide +kernel
theorem d_Parser_among_74 : decode prog_6_method_36_code 74 = .ok (.getfield 15, 3) := by decide +kernel
theorem d_Parser_among_77 : decode prog_6_method_36_code 77 = .ok (.bipush 17, 2) := by decide +kernel
theorem d_Parser_among_79 : decode prog_6_method_36_code 79 = .ok (.iload 6, 2) := by decide +kernel
theorem d_Parser_among_81 : decode prog_6_method_36_code 81 = .ok (.aload_n 0, 1) := by decide +kernel
theorem d_Parser_among_82 : decode prog_6_method_36_code 82 = .ok (.iconst 1, 1) := by decide +kernel
theorem d_Parser_among_83 : decode prog_6_method_36_code 83 = .ok (.iload_n 3, 1) := by decide +kernel
theorem d_Parser_among_84 : decode prog_6_method_36_code 84 = .ok (.iconst 1, 1) := by decide +kernel
theorem d_Parser_among_85 : decode prog_6_method_36_code 85 = .ok (.iadd, 1) := by decide +kernel
theorem d_Parser_among_86 : decode prog_6_method_36_code 86 = .ok (.invokevirtual 192, 3) := by decide +kernel
theorem d_Parser_among_89 : decode prog_6_method_36_code 89 = .ok (.invokevirtual 335, 3) := by decide +kernel
theorem d_Parser_among_92 : decode prog_6_method_36_code 92 = .ok (.istore 7, 2) := by decide +kernel
theorem d_Parser_among_94 : decode prog_6_method_36_code 94 = .ok (.aload_n 0, 1) := by decide +kernel
theorem d_Parser_among_95 : decode prog_6_method_36_code 95 = .ok (.getfield 15, 3) := by decide +kernel
theorem d_Parser_among_98 : decode prog_6_method_36_code 98 = .ok (.bipush 27, 2) := by decide +kernel
theorem d_Parser_among_100 : decode prog_6_method_36_code 100 = .ok (.iload 4, 2) := by decide +kernel
theorem d_Parser_among_102 : decode prog_6_method_36_code 102 = .ok (.iload 7, 2) := by decide +kernel
theorem d_Parser_among_104 : decode prog_6_method_36_code 104 = .ok (.invokevirtual 335, 3) := by decide +kernel
theorem d_Parser_among_107 : decode prog_6_method_36_code 107 = .ok (.istore 4, 2) := by decide +kernel
theorem d_Parser_among_109 : decode prog_6_method_36_code 109 = .ok (.iinc 5 1, 3) := by decide +kernel
theorem d_Parser_among_112 : decode prog_6_method_36_code 112 = .ok (.goto (-75), 3) := by decide +kernel
theorem d_Parser_among_115 : decode prog_6_method_36_code 115 = .ok (.aload_n 0, 1) := by decide +kernel
theorem d_Parser_among_116 : decode prog_6_method_36_code 116 = .ok (.getfield 9, 3) := by decide +kernel
theorem d_Parser_among_119 : decode prog_6_method_36_code 119 = .ok (.ldc 155, 2) := by decide +kernel
theorem d_Parser_among_121 : decode prog_6_method_36_code 121 = .ok (.invokevirtual 29, 3) := by decide +kernel
theorem d_Parser_among_124 : decode prog_6_method_36_code 124 = .ok (.ifCond .eq 8, 3) := by decide +kernel
theorem d_Parser_among_127 : decode prog_6_method_36_code 127 = .ok (.iload 4, 2) := by decide +kernel
theorem d_Parser_among_129 : decode prog_6_method_36_code 129 = .ok (.goto 4, 3) := by decide +kernel
theorem d_Parser_among_132 : decode prog_6_method_36_code 132 = .ok (.iconst (-1), 1) := by decide +kernel
theorem d_Parser_among_133 : decode prog_6_method_36_code 133 = .ok (.ireturn, 1) := by decide +kernel
theorem d_Parser_begin_0 : decode prog_6_method_30_code 0 = .ok (.aload_n 0, 1) := by decide +kernel
theorem d_Parser_begin_1 : decode prog_6_method_30_code 1 = .ok (.getfield 23, 3) := by decide +kernel
theorem d_Parser_begin_4 : decode prog_6_method_30_code 4 = .ok (.bipush 9, 2) := by decide +kernel
theorem d_Parser_begin_6 : decode prog_6_method_30_code 6 = .ok (.putfield 86, 3) := by decide +kernel
theorem d_Parser_begin_9 : decode prog_6_method_30_code 9 = .ok (.aload_n 0, 1) := by decide +kernel
theorem d_Parser_begin_10 : decode prog_6_method_30_code 10 = .ok (.getfield 9, 3) := by decide +kernel
theorem d_Parser_begin_13 : decode prog_6_method_30_code 13 = .ok (.ldc_w 288, 3) := by decide +kernel
theorem d_Parser_begin_16 : decode prog_6_method_30_code 16 = .ok (.invokevirtual 29, 3) := by decide +kernel
theorem d_Parser_begin_19 : decode prog_6_method_30_code 19 = .ok (.ifCond .eq 14, 3) := by decide +kernel
theorem d_Parser_begin_22 : decode prog_6_method_30_code 22 = .ok (.aload_n 0, 1) := by decide +kernel
theorem d_Parser_begin_23 : decode prog_6_method_30_code 23 = .ok (.getfield 9, 3) := by decide +kernel
theorem d_Parser_begin_26 : decode prog_6_method_30_code 26 = .ok (.ldc_w 290, 3) := by decide +kernel
theorem d_Parser_begin_29 : decode prog_6_method_30_code 29 = .ok (.invokevirtual 29, 3) := by decide +kernel
theorem d_Parser_begin_32 : decode prog_6_method_30_code 32 = .ok (.ireturn, 1) := by decide +kernel
theorem d_Parser_begin_33 : decode prog_6_method_30_code 33 = .ok (.aload_n 0, 1) := by decide +kernel
theorem d_Parser_begin_34 : decode prog_6_method_30_code 34 = .ok (.getfield 9, 3) := by decide +kernel
theorem d_Parser_begin_37 : decode prog_6_method_30_code 37 = .ok (.ldc_w 292, 3) := by decide +kernel
theorem d_Parser_begin_40 : decode prog_6_method_30_code 40 = .ok (.invokevirtual 29, 3) := by decide +kernel
theorem d_Parser_begin_43 : decode prog_6_method_30_code 43 = .ok (.ifCond .eq 22, 3) := by decide +kernel
theorem d_Parser_begin_46 : decode prog_6_method_30_code 46 = .ok (.aload_n 0, 1) := by decide +kernel
theorem d_Parser_begin_47 : decode prog_6_method_30_code 47 = .ok (.getfield 23, 3) := by decide +kernel
theorem d_Parser_begin_50 : decode prog_6_method_30_code 50 = .ok (.iconst 1, 1) := by decide +kernel
theorem d_Parser_begin_51 : decode prog_6_method_30_code 51 = .ok (.putfield 285, 3) := by decide +kernel
theorem d_Parser_begin_54 : decode prog_6_method_30_code 54 = .ok (.aload_n 0, 1) := by decide +kernel
theorem d_Parser_begin_55 : decode prog_6_method_30_code 55 = .ok (.getfield 9, 3) := by decide +kernel
theorem d_Parser_begin_58 : decode prog_6_method_30_code 58 = .ok (.ldc_w 288, 3) := by decide +kernel
theorem d_Parser_begin_61 : decode prog_6_method_30_code 61 = .ok (.invokevirtual 29, 3) := by decide +kernel
theorem d_Parser_begin_64 : decode prog_6_method_30_code 64 = .ok (.ireturn, 1) := by decide +kernel
theorem d_Parser_begin_65 : decode prog_6_method_30_code 65 = .ok (.aload_n 0, 1) := by decide +kernel
theorem d_Parser_begin_66 : decode prog_6_method_30_code 66 = .ok (.getfield 23, 3) := by decide +kernel
theorem d_Parser_begin_69 : decode prog_6_method_30_code 69 = .ok (.aload_n 0, 1) := by decide +kernel
theorem d_Parser_begin_70 : decode prog_6_method_30_code 70 = .ok (.getfield 9, 3) := by decide +kernel
theorem d_Parser_begin_73 : decode prog_6_method_30_code 73 = .ok (.ldc_w 294, 3) := by decide +kernel
theorem d_Parser_begin_76 : decode prog_6_method_30_code 76 = .ok (.invokevirtual 29, 3) := by decide +kernel
theorem d_Parser_begin_79 : decode prog_6_method_30_code 79 = .ok (.ifCond .eq 7, 3) := by decide +kernel
theorem d_Parser_begin_82 : decode prog_6_method_30_code 82 = .ok (.iconst 2, 1) := by decide +kernel
theorem d_Parser_begin_83 : decode prog_6_method_30_code 83 = .ok (.goto 4, 3) := by decide +kernel
theorem d_Parser_begin_86 : decode prog_6_method_30_code 86 = .ok (.iconst 0, 1) := by decide +kernel
theorem d_Parser_begin_87 : decode prog_6_method_30_code 87 = .ok (.putfield 285, 3) := by decide +kernel
theorem d_Parser_begin_90 : decode prog_6_method_30_code 90 = .ok (.iconst 1, 1) := by decide +kernel
theorem d_Parser_begin_91 : decode prog_6_method_30_code 91 = .ok (.ireturn, 1) := by decide +kernel
theorem d_Parser_begins_0 : decode prog_6_method_2_code 0 = .ok (.aload_n 0, 1) := by decide +kernel
theorem d_Parser_begins_1 : decode prog_6_method_2_code 1 = .ok (.aload_n 0, 1) := by decide +kernel
theorem d_Parser_begins_2 : decode prog_6_method_2_code 2 = .ok (.getfield 9, 3) := by decide +kernel
theorem d_Parser_begins_5 : decode prog_6_method_2_code 5 = .ok (.ldc 27, 2) := by decide +kernel
theorem d_Parser_begins_7 : decode prog_6_method_2_code 7 = .ok (.invokevirtual 29, 3) := by decide +kernel
theorem d_Parser_begins_10 : decode prog_6_method_2_code 10 = .ok (.putfield 35, 3) := by decide +kernel
theorem d_Parser_begins_13 : decode prog_6_method_2_code 13 = .ok (.aload_n 0, 1) := by decide +kernel
theorem d_Parser_begins_14 : decode prog_6_method_2_code 14 = .ok (.getfield 35, 3) := by decide +kernel
theorem d_Parser_begins_17 : decode prog_6_method_2_code 17 = .ok (.ifCond .eq 22, 3) := by decide +kernel
theorem d_Parser_begins_20 : decode prog_6_method_2_code 20 = .ok (.aload_n 0, 1) := by decide +kernel
theorem d_Parser_begins_21 : decode prog_6_method_2_code 21 = .ok (.invokevirtual 39, 3) := by decide +kernel
theorem d_Parser_begins_24 : decode prog_6_method_2_code 24 = .ok (.ifCond .eq 19, 3) := by decide +kernel
theorem d_Parser_begins_27 : decode prog_6_method_2_code 27 = .ok (.aload_n 0, 1) := by decide +kernel
theorem d_Parser_begins_28 : decode prog_6_method_2_code 28 = .ok (.getfield 9, 3) := by decide +kernel
theorem d_Parser_begins_31 : decode prog_6_method_2_code 31 = .ok (.ldc 43, 2) := by decide +kernel
theorem d_Parser_begins_33 : decode prog_6_method_2_code 33 = .ok (.invokevirtual 29, 3) := by decide +kernel
theorem d_Parser_begins_36 : decode prog_6_method_2_code 36 = .ok (.ifCond .eq 7, 3) := by decide +kernel
theorem d_Parser_begins_39 : decode prog_6_method_2_code 39 = .ok (.iconst 1, 1) := by decide +kernel
theorem d_Parser_begins_40 : decode prog_6_method_2_code 40 = .ok (.goto 4, 3) := by decide +kernel
theorem d_Parser_begins_43 : decode prog_6_method_2_code 43 = .ok (.iconst 0, 1) := by decide +kernel
theorem d_Parser_begins_44 : decode prog_6_method_2_code 44 = .ok (.ireturn, 1) := by decide +kernel
theorem d_Parser_between_0 : decode prog_6_method_35_code 0 = .ok (.aload_n 0, 1) := by decide +kernel
theorem d_Parser_between_1 : decode prog_6_method_35_code 1 = .ok (.getfield 15, 3) := by decide +kernel
theorem d_Parser_between_4 : decode prog_6_method_35_code 4 = .ok (.bipush 22, 2) := by decide +kernel
theorem d_Parser_between_6 : decode prog_6_method_35_code 6 = .ok (.iload_n 2, 1) := by decide +kernel
theorem d_Parser_between_7 : decode prog_6_method_35_code 7 = .ok (.aload_n 0, 1) := by decide +kernel
theorem d_Parser_between_8 : decode prog_6_method_35_code 8 = .ok (.iconst 5, 1) := by decide +kernel
theorem d_Parser_between_9 : decode prog_6_method_35_code 9 = .ok (.iload_n 3, 1) := by decide +kernel
theorem d_Parser_between_10 : decode prog_6_method_35_code 10 = .ok (.invokevirtual 192, 3) := by decide +kernel
theorem d_Parser_between_13 : decode prog_6_method_35_code 13 = .ok (.invokevirtual 335, 3) := by decide +kernel
theorem d_Parser_between_16 : decode prog_6_method_35_code 16 = .ok (.istore 4, 2) := by decide +kernel
theorem d_Parser_between_18 : decode prog_6_method_35_code 18 = .ok (.iload 4, 2) := by decide +kernel
theorem d_Parser_between_20 : decode prog_6_method_35_code 20 = .ok (.ifCond .lt 16, 3) := by decide +kernel
theorem d_Parser_between_23 : decode prog_6_method_35_code 23 = .ok (.aload_n 0, 1) := by decide +kernel
theorem d_Parser_between_24 : decode prog_6_method_35_code 24 = .ok (.getfield 9, 3) := by decide +kernel
theorem d_Parser_between_27 : decode prog_6_method_35_code 27 = .ok (.ldc_w 349, 3) := by decide +kernel
theorem d_Parser_between_30 : decode prog_6_method_35_code 30 = .ok (.invokevirtual 29, 3) := by decide +kernel
theorem d_Parser_between_33 : decode prog_6_method_35_code 33 = .ok (.ifCond .ne 5, 3) := by decide +kernel
theorem d_Parser_between_36 : decode prog_6_method_35_code 36 = .ok (.iconst (-1), 1) := by decide +kernel
theorem d_Parser_between_37 : decode prog_6_method_35_code 37 = .ok (.ireturn, 1) := by decide +kernel
theorem d_Parser_between_38 : decode prog_6_method_35_code 38 = .ok (.aload_n 0, 1) := by decide +kernel
theorem d_Parser_between_39 : decode prog_6_method_35_code 39 = .ok (.getfield 15, 3) := by decide +kernel
theorem d_Parser_between_42 : decode prog_6_method_35_code 42 = .ok (.iload_n 1, 1) := by decide +kernel
theorem d_Parser_between_43 : decode prog_6_method_35_code 43 = .ok (.iload_n 2, 1) := by decide +kernel
theorem d_Parser_between_44 : decode prog_6_method_35_code 44 = .ok (.invokevirtual 351, 3) := by decide +kernel
theorem d_Parser_between_47 : decode prog_6_method_35_code 47 = .ok (.istore 5, 2) := by decide +kernel
theorem d_Parser_between_49 : decode prog_6_method_35_code 49 = .ok (.aload_n 0, 1) := by decide +kernel
theorem d_Parser_between_50 : decode prog_6_method_35_code 50 = .ok (.getfield 15, 3) := by decide +kernel
theorem d_Parser_between_53 : decode prog_6_method_35_code 53 = .ok (.bipush 20, 2) := by decide +kernel
theorem d_Parser_between_55 : decode prog_6_method_35_code 55 = .ok (.iload 5, 2) := by decide +kernel
theorem d_Parser_between_57 : decode prog_6_method_35_code 57 = .ok (.aload_n 0, 1) := by decide +kernel
theorem d_Parser_between_58 : decode prog_6_method_35_code 58 = .ok (.iconst 5, 1) := by decide +kernel
theorem d_Parser_between_59 : decode prog_6_method_35_code 59 = .ok (.iload_n 3, 1) := by decide +kernel
theorem d_Parser_between_60 : decode prog_6_method_35_code 60 = .ok (.invokevirtual 192, 3) := by decide +kernel
theorem d_Parser_between_63 : decode prog_6_method_35_code 63 = .ok (.invokevirtual 335, 3) := by decide +kernel
theorem d_Parser_between_66 : decode prog_6_method_35_code 66 = .ok (.istore 6, 2) := by decide +kernel
theorem d_Parser_between_68 : decode prog_6_method_35_code 68 = .ok (.aload_n 0, 1) := by decide +kernel
theorem d_Parser_between_69 : decode prog_6_method_35_code 69 = .ok (.getfield 15, 3) := by decide +kernel
theorem d_Parser_between_72 : decode prog_6_method_35_code 72 = .ok (.bipush 26, 2) := by decide +kernel
theorem d_Parser_between_74 : decode prog_6_method_35_code 74 = .ok (.iload 4, 2) := by decide +kernel
theorem d_Parser_between_76 : decode prog_6_method_35_code 76 = .ok (.iload 6, 2) := by decide +kernel
theorem d_Parser_between_78 : decode prog_6_method_35_code 78 = .ok (.invokevirtual 335, 3) := by decide +kernel
theorem d_Parser_between_81 : decode prog_6_method_35_code 81 = .ok (.ireturn, 1) := by decide +kernel
theorem d_Parser_columns_0 : decode prog_6_method_10_code 0 = .ok (.aload_n 0, 1) := by decide +kernel
theorem d_Parser_columns_1 : decode prog_6_method_10_code 1 = .ok (.getfield 9, 3) := by decide +kernel
theorem d_Parser_columns_4 : decode prog_6_method_10_code 4 = .ok (.ldc 150, 2) := by decide +kernel
theorem d_Parser_columns_6 : decode prog_6_method_10_code 6 = .ok (.invokevirtual 29, 3) := by decide +kernel
theorem d_Parser_columns_9 : decode prog_6_method_10_code 9 = .ok (.ifCond .eq 14, 3) := by decide +kernel
theorem d_Parser_columns_12 : decode prog_6_method_10_code 12 = .ok (.aload_n 0, 1) := by decide +kernel
theorem d_Parser_columns_13 : decode prog_6_method_10_code 13 = .ok (.invokevirtual 157, 3) := by decide +kernel
theorem d_Parser_columns_16 : decode prog_6_method_10_code 16 = .ok (.ifCond .eq 7, 3) := by decide +kernel
theorem d_Parser_columns_19 : decode prog_6_method_10_code 19 = .ok (.iconst 1, 1) := by decide +kernel
theorem d_Parser_columns_20 : decode prog_6_method_10_code 20 = .ok (.goto 4, 3) := by decide +kernel
theorem d_Parser_columns_23 : decode prog_6_method_10_code 23 = .ok (.iconst 0, 1) := by decide +kernel
theorem d_Parser_columns_24 : decode prog_6_method_10_code 24 = .ok (.istore_n 1, 1) := by decide +kernel
theorem d_Parser_columns_25 : decode prog_6_method_10_code 25 = .ok (.iconst 0, 1) := by decide +kernel
theorem d_Parser_columns_26 : decode prog_6_method_10_code 26 = .ok (.istore_n 2, 1) := by decide +kernel
theorem d_Parser_columns_27 : decode prog_6_method_10_code 27 = .ok (.iload_n 2, 1) := by decide +kernel
theorem d_Parser_columns_28 : decode prog_6_method_10_code 28 = .ok (.sipush 2000, 3) := by decide +kernel
theorem d_Parser_columns_31 : decode prog_6_method_10_code 31 = .ok (.if_icmp .ge 30, 3) := by decide +kernel
theorem d_Parser_columns_34 : decode prog_6_method_10_code 34 = .ok (.iload_n 1, 1) := by decide +kernel
theorem d_Parser_columns_35 : decode prog_6_method_10_code 35 = .ok (.ifCond .eq 26, 3) := by decide +kernel
theorem d_Parser_columns_38 : decode prog_6_method_10_code 38 = .ok (.aload_n 0, 1) := by decide +kernel
theorem d_Parser_columns_39 : decode prog_6_method_10_code 39 = .ok (.getfield 9, 3) := by decide +kernel
theorem d_Parser_columns_42 : decode prog_6_method_10_code 42 = .ok (.ldc 162, 2) := by decide +kernel
theorem d_Parser_columns_44 : decode prog_6_method_10_code 44 = .ok (.invokevirtual 29, 3) := by decide +kernel
theorem d_Parser_columns_47 : decode prog_6_method_10_code 47 = .ok (.ifCond .eq 14, 3) := by decide +kernel
theorem d_Parser_columns_50 : decode prog_6_method_10_code 50 = .ok (.aload_n 0, 1) := by decide +kernel
theorem d_Parser_columns_51 : decode prog_6_method_10_code 51 = .ok (.invokevirtual 157, 3) := by decide +kernel
theorem d_Parser_columns_54 : decode prog_6_method_10_code 54 = .ok (.istore_n 1, 1) := by decide +kernel
theorem d_Parser_columns_55 : decode prog_6_method_10_code 55 = .ok (.iinc 2 1, 3) := by decide +kernel
theorem d_Parser_columns_58 : decode prog_6_method_10_code 58 = .ok (.goto (-31), 3) := by decide +kernel
theorem d_Parser_columns_61 : decode prog_6_method_10_code 61 = .ok (.iload_n 1, 1) := by decide +kernel
theorem d_Parser_columns_62 : decode prog_6_method_10_code 62 = .ok (.ifCond .eq 19, 3) := by decide +kernel
theorem d_Parser_columns_65 : decode prog_6_method_10_code 65 = .ok (.aload_n 0, 1) := by decide +kernel
theorem d_Parser_columns_66 : decode prog_6_method_10_code 66 = .ok (.getfield 9, 3) := by decide +kernel
theorem d_Parser_columns_69 : decode prog_6_method_10_code 69 = .ok (.ldc 155, 2) := by decide +kernel
theorem d_Parser_columns_71 : decode prog_6_method_10_code 71 = .ok (.invokevirtual 29, 3) := by decide +kernel
theorem d_Parser_columns_74 : decode prog_6_method_10_code 74 = .ok (.ifCond .eq 7, 3) := by decide +kernel
theorem d_Parser_columns_77 : decode prog_6_method_10_code 77 = .ok (.iconst 1, 1) := by decide +kernel
theorem d_Parser_columns_78 : decode prog_6_method_10_code 78 = .ok (.goto 4, 3) := by decide +kernel
theorem d_Parser_columns_81 : decode prog_6_method_10_code 81 = .ok (.iconst 0, 1) := by decide +kernel
theorem d_Parser_columns_82 : decode prog_6_method_10_code 82 = .ok (.ireturn, 1) := by decide +kernel
theorem d_Parser_comparison_0 : decode prog_6_method_34_code 0 = .ok (.iload_n 1, 1) := by decide +kernel
theorem d_Parser_comparison_1 : decode prog_6_method_34_code 1 = .ok (.bipush 23, 2) := by decide +kernel
theorem d_Parser_comparison_3 : decode prog_6_method_34_code 3 = .ok (.if_icmp .ne 50, 3) := by decide +kernel
theorem d_Parser_comparison_6 : decode prog_6_method_34_code 6 = .ok (.aload_n 0, 1) := by decide +kernel
theorem d_Parser_comparison_7 : decode prog_6_method_34_code 7 = .ok (.getfield 9, 3) := by decide +kernel
theorem d_Parser_comparison_10 : decode prog_6_method_34_code 10 = .ok (.ldc 168, 2) := by decide +kernel
theorem d_Parser_comparison_12 : decode prog_6_method_34_code 12 = .ok (.invokevirtual 29, 3) := by decide +kernel
theorem d_Parser_comparison_15 : decode prog_6_method_34_code 15 = .ok (.ifCond .eq 8, 3) := by decide +kernel
theorem d_Parser_comparison_18 : decode prog_6_method_34_code 18 = .ok (.bipush 24, 2) := by decide +kernel
theorem d_Parser_comparison_20 : decode prog_6_method_34_code 20 = .ok (.goto 4, 3) := by decide +kernel
theorem d_Parser_comparison_23 : decode prog_6_method_34_code 23 = .ok (.iload_n 1, 1) := by decide +kernel
theorem d_Parser_comparison_24 : decode prog_6_method_34_code 24 = .ok (.istore 5, 2) := by decide +kernel
theorem d_Parser_comparison_26 : decode prog_6_method_34_code 26 = .ok (.aload_n 0, 1) := by decide +kernel
theorem d_Parser_comparison_27 : decode prog_6_method_34_code 27 = .ok (.getfield 9, 3) := by decide +kernel
theorem d_Parser_comparison_30 : decode prog_6_method_34_code 30 = .ok (.ldc 170, 2) := by decide +kernel
theorem d_Parser_comparison_32 : decode prog_6_method_34_code 32 = .ok (.invokevirtual 29, 3) := by decide +kernel
theorem d_Parser_comparison_35 : decode prog_6_method_34_code 35 = .ok (.ifCond .eq 16, 3) := by decide +kernel
theorem d_Parser_comparison_38 : decode prog_6_method_34_code 38 = .ok (.aload_n 0, 1) := by decide +kernel
theorem d_Parser_comparison_39 : decode prog_6_method_34_code 39 = .ok (.getfield 15, 3) := by decide +kernel
theorem d_Parser_comparison_42 : decode prog_6_method_34_code 42 = .ok (.iload 5, 2) := by decide +kernel
theorem d_Parser_comparison_44 : decode prog_6_method_34_code 44 = .ok (.iload_n 3, 1) := by decide +kernel
theorem d_Parser_comparison_45 : decode prog_6_method_34_code 45 = .ok (.invokevirtual 309, 3) := by decide +kernel
theorem d_Parser_comparison_48 : decode prog_6_method_34_code 48 = .ok (.goto 4, 3) := by decide +kernel
theorem d_Parser_comparison_51 : decode prog_6_method_34_code 51 = .ok (.iconst (-1), 1) := by decide +kernel
theorem d_Parser_comparison_52 : decode prog_6_method_34_code 52 = .ok (.ireturn, 1) := by decide +kernel
theorem d_Parser_comparison_53 : decode prog_6_method_34_code 53 = .ok (.iload_n 1, 1) := by decide +kernel
theorem d_Parser_comparison_54 : decode prog_6_method_34_code 54 = .ok (.bipush 29, 2) := by decide +kernel
theorem d_Parser_comparison_56 : decode prog_6_method_34_code 56 = .ok (.if_icmp .ge 20, 3) := by decide +kernel
theorem d_Parser_comparison_59 : decode prog_6_method_34_code 59 = .ok (.aload_n 0, 1) := by decide +kernel
theorem d_Parser_comparison_60 : decode prog_6_method_34_code 60 = .ok (.getfield 15, 3) := by decide +kernel
theorem d_Parser_comparison_63 : decode prog_6_method_34_code 63 = .ok (.iload_n 1, 1) := by decide +kernel
theorem d_Parser_comparison_64 : decode prog_6_method_34_code 64 = .ok (.iload_n 3, 1) := by decide +kernel
theorem d_Parser_comparison_65 : decode prog_6_method_34_code 65 = .ok (.aload_n 0, 1) := by decide +kernel
theorem d_Parser_comparison_66 : decode prog_6_method_34_code 66 = .ok (.iconst 5, 1) := by decide +kernel
theorem d_Parser_comparison_67 : decode prog_6_method_34_code 67 = .ok (.iload 4, 2) := by decide +kernel
theorem d_Parser_comparison_69 : decode prog_6_method_34_code 69 = .ok (.invokevirtual 192, 3) := by decide +kernel
theorem d_Parser_comparison_72 : decode prog_6_method_34_code 72 = .ok (.invokevirtual 335, 3) := by decide +kernel
theorem d_Parser_comparison_75 : decode prog_6_method_34_code 75 = .ok (.ireturn, 1) := by decide +kernel
theorem d_Parser_comparison_76 : decode prog_6_method_34_code 76 = .ok (.iload_n 1, 1) := by decide +kernel
theorem d_Parser_comparison_77 : decode prog_6_method_34_code 77 = .ok (.bipush 31, 2) := by decide +kernel
theorem d_Parser_comparison_79 : decode prog_6_method_34_code 79 = .ok (.if_icmp .ne 7, 3) := by decide +kernel
theorem d_Parser_comparison_82 : decode prog_6_method_34_code 82 = .ok (.iconst 1, 1) := by decide +kernel
theorem d_Parser_comparison_83 : decode prog_6_method_34_code 83 = .ok (.goto 4, 3) := by decide +kernel
theorem d_Parser_comparison_86 : decode prog_6_method_34_code 86 = .ok (.iconst 0, 1) := by decide +kernel
theorem d_Parser_comparison_87 : decode prog_6_method_34_code 87 = .ok (.istore 5, 2) := by decide +kernel
theorem d_Parser_comparison_89 : decode prog_6_method_34_code 89 = .ok (.iconst (-1), 1) := by decide +kernel
theorem d_Parser_comparison_90 : decode prog_6_method_34_code 90 = .ok (.istore 6, 2) := by decide +kernel
theorem d_Parser_comparison_92 : decode prog_6_method_34_code 92 = .ok (.iload_n 1, 1) := by decide +kernel
theorem d_Parser_comparison_93 : decode prog_6_method_34_code 93 = .ok (.bipush 29, 2) := by decide +kernel
theorem d_Parser_comparison_95 : decode prog_6_method_34_code 95 = .ok (.if_icmp .eq 21, 3) := by decide +kernel
theorem d_Parser_comparison_98 : decode prog_6_method_34_code 98 = .ok (.iload 5, 2) := by decide +kernel
theorem d_Parser_comparison_100 : decode prog_6_method_34_code 100 = .ok (.ifCond .eq 29, 3) := by decide +kernel
theorem d_Parser_comparison_103 : decode prog_6_method_34_code 103 = .ok (.aload_n 0, 1) := by decide +kernel
theorem d_Parser_comparison_104 : decode prog_6_method_34_code 104 = .ok (.getfield 9, 3) := by decide +kernel
theorem d_Parser_comparison_107 : decode prog_6_method_34_code 107 = .ok (.ldc_w 339, 3) := by decide +kernel
theorem d_Parser_comparison_110 : decode prog_6_method_34_code 110 = .ok (.invokevirtual 29, 3) := by decide +kernel
theorem d_Parser_comparison_113 : decode prog_6_method_34_code 113 = .ok (.ifCond .eq 16, 3) := by decide +kernel
theorem d_Parser_comparison_116 : decode prog_6_method_34_code 116 = .ok (.aload_n 0, 1) := by decide +kernel
theorem d_Parser_comparison_117 : decode prog_6_method_34_code 117 = .ok (.iload_n 2, 1) := by decide +kernel
theorem d_Parser_comparison_118 : decode prog_6_method_34_code 118 = .ok (.iload_n 3, 1) := by decide +kernel
theorem d_Parser_comparison_119 : decode prog_6_method_34_code 119 = .ok (.iload 4, 2) := by decide +kernel
theorem d_Parser_comparison_121 : decode prog_6_method_34_code 121 = .ok (.invokevirtual 341, 3) := by decide +kernel
theorem d_Parser_comparison_124 : decode prog_6_method_34_code 124 = .ok (.istore 6, 2) := by decide +kernel
theorem d_Parser_comparison_126 : decode prog_6_method_34_code 126 = .ok (.goto 32, 3) := by decide +kernel
theorem d_Parser_comparison_129 : decode prog_6_method_34_code 129 = .ok (.iload_n 1, 1) := by decide +kernel
theorem d_Parser_comparison_130 : decode prog_6_method_34_code 130 = .ok (.bipush 30, 2) := by decide +kernel
theorem d_Parser_comparison_132 : decode prog_6_method_34_code 132 = .ok (.if_icmp .eq 16, 3) := by decide +kernel
theorem d_Parser_comparison_135 : decode prog_6_method_34_code 135 = .ok (.aload_n 0, 1) := by decide +kernel
theorem d_Parser_comparison_136 : decode prog_6_method_34_code 136 = .ok (.getfield 9, 3) := by decide +kernel
theorem d_Parser_comparison_139 : decode prog_6_method_34_code 139 = .ok (.ldc_w 344, 3) := by decide +kernel
theorem d_Parser_comparison_142 : decode prog_6_method_34_code 142 = .ok (.invokevirtual 29, 3) := by decide +kernel
theorem d_Parser_comparison_145 : decode prog_6_method_34_code 145 = .ok (.ifCond .eq 13, 3) := by decide +kernel
theorem d_Parser_comparison_148 : decode prog_6_method_34_code 148 = .ok (.aload_n 0, 1) := by decide +kernel
theorem d_Parser_comparison_149 : decode prog_6_method_34_code 149 = .ok (.iload_n 2, 1) := by decide +kernel
theorem d_Parser_comparison_150 : decode prog_6_method_34_code 150 = .ok (.iload_n 3, 1) := by decide +kernel
theorem d_Parser_comparison_151 : decode prog_6_method_34_code 151 = .ok (.iload 4, 2) := by decide +kernel
theorem d_Parser_comparison_153 : decode prog_6_method_34_code 153 = .ok (.invokevirtual 346, 3) := by decide +kernel
theorem d_Parser_comparison_156 : decode prog_6_method_34_code 156 = .ok (.istore 6, 2) := by decide +kernel
theorem d_Parser_comparison_158 : decode prog_6_method_34_code 158 = .ok (.iload 5, 2) := by decide +kernel
