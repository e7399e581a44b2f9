theorem dL_changes_10 : decode cL_changes 10 = .ok (.if_icmp .ne 72, 3) := by decide +kernel
theorem dL_changes_13 : decode cL_changes 13 = .ok (.aload_n 0, 1) := by decide +kernel
theorem dL_changes_14 : decode cL_changes 14 = .ok (.iload_n 1, 1) := by decide +kernel
theorem dL_changes_15 : decode cL_changes 15 = .ok (.iload_n 2, 1) := by decide +kernel
theorem dL_changes_16 : decode cL_changes 16 = .ok (.iload_n 3, 1) := by decide +kernel
theorem dL_changes_17 : decode cL_changes 17 = .ok (.iconst 1, 1) := by decide +kernel
theorem dL_changes_18 : decode cL_changes 18 = .ok (.invokevirtual 55, 3) := by decide +kernel
theorem dL_changes_21 : decode cL_changes 21 = .ok (.iload 5, 2) := by decide +kernel
theorem dL_changes_23 : decode cL_changes 23 = .ok (.if_icmp .ne 59, 3) := by decide +kernel
theorem dL_changes_26 : decode cL_changes 26 = .ok (.aload_n 0, 1) := by decide +kernel
theorem dL_changes_27 : decode cL_changes 27 = .ok (.iload_n 1, 1) := by decide +kernel
theorem dL_changes_28 : decode cL_changes 28 = .ok (.iload_n 2, 1) := by decide +kernel
theorem dL_changes_29 : decode cL_changes 29 = .ok (.iload_n 3, 1) := by decide +kernel
theorem dL_changes_30 : decode cL_changes 30 = .ok (.iconst 2, 1) := by decide +kernel
theorem dL_changes_31 : decode cL_changes 31 = .ok (.invokevirtual 55, 3) := by decide +kernel
theorem dL_changes_34 : decode cL_changes 34 = .ok (.iload 6, 2) := by decide +kernel
theorem dL_changes_36 : decode cL_changes 36 = .ok (.if_icmp .ne 46, 3) := by decide +kernel
theorem dL_changes_39 : decode cL_changes 39 = .ok (.aload_n 0, 1) := by decide +kernel
theorem dL_changes_40 : decode cL_changes 40 = .ok (.iload_n 1, 1) := by decide +kernel
theorem dL_changes_41 : decode cL_changes 41 = .ok (.iload_n 2, 1) := by decide +kernel
theorem dL_changes_42 : decode cL_changes 42 = .ok (.iload_n 3, 1) := by decide +kernel
theorem dL_changes_43 : decode cL_changes 43 = .ok (.iconst 0, 1) := by decide +kernel
theorem dL_changes_44 : decode cL_changes 44 = .ok (.invokevirtual 58, 3) := by decide +kernel
theorem dL_changes_47 : decode cL_changes 47 = .ok (.iload 4, 2) := by decide +kernel
theorem dL_changes_49 : decode cL_changes 49 = .ok (.if_icmp .ne 33, 3) := by decide +kernel
theorem dL_changes_52 : decode cL_changes 52 = .ok (.aload_n 0, 1) := by decide +kernel
theorem dL_changes_53 : decode cL_changes 53 = .ok (.iload_n 1, 1) := by decide +kernel
theorem dL_changes_54 : decode cL_changes 54 = .ok (.iload_n 2, 1) := by decide +kernel
theorem dL_changes_55 : decode cL_changes 55 = .ok (.iload_n 3, 1) := by decide +kernel
theorem dL_changes_56 : decode cL_changes 56 = .ok (.iconst 1, 1) := by decide +kernel
theorem dL_changes_57 : decode cL_changes 57 = .ok (.invokevirtual 58, 3) := by decide +kernel
theorem dL_changes_60 : decode cL_changes 60 = .ok (.iload 5, 2) := by decide +kernel
theorem dL_changes_62 : decode cL_changes 62 = .ok (.if_icmp .ne 20, 3) := by decide +kernel
theorem dL_changes_65 : decode cL_changes 65 = .ok (.aload_n 0, 1) := by decide +kernel
theorem dL_changes_66 : decode cL_changes 66 = .ok (.iload_n 1, 1) := by decide +kernel
theorem dL_changes_67 : decode cL_changes 67 = .ok (.iload_n 2, 1) := by decide +kernel
theorem dL_changes_68 : decode cL_changes 68 = .ok (.iload_n 3, 1) := by decide +kernel
theorem dL_changes_69 : decode cL_changes 69 = .ok (.iconst 2, 1) := by decide +kernel
theorem dL_changes_70 : decode cL_changes 70 = .ok (.invokevirtual 58, 3) := by decide +kernel
theorem dL_changes_73 : decode cL_changes 73 = .ok (.iload 6, 2) := by decide +kernel
theorem dL_changes_75 : decode cL_changes 75 = .ok (.if_icmp .ne 7, 3) := by decide +kernel
theorem dL_changes_78 : decode cL_changes 78 = .ok (.iconst 1, 1) := by decide +kernel
theorem dL_changes_79 : decode cL_changes 79 = .ok (.goto 4, 3) := by decide +kernel
theorem dL_changes_82 : decode cL_changes 82 = .ok (.iconst 0, 1) := by decide +kernel
theorem dL_changes_83 : decode cL_changes 83 = .ok (.ireturn, 1) := by decide +kernel
theorem dL_off_0 : decode cL_off 0 = .ok (.aload_n 0, 1) := by decide +kernel
theorem dL_off_1 : decode cL_off 1 = .ok (.iload_n 1, 1) := by decide +kernel
theorem dL_off_2 : decode cL_off 2 = .ok (.iload_n 2, 1) := by decide +kernel
theorem dL_off_3 : decode cL_off 3 = .ok (.iconst 0, 1) := by decide +kernel
theorem dL_off_4 : decode cL_off 4 = .ok (.invokevirtual 61, 3) := by decide +kernel
theorem dL_off_7 : decode cL_off 7 = .ok (.iload_n 3, 1) := by decide +kernel
theorem dL_off_8 : decode cL_off 8 = .ok (.if_icmp .ne 43, 3) := by decide +kernel
theorem dL_off_11 : decode cL_off 11 = .ok (.aload_n 0, 1) := by decide +kernel
theorem dL_off_12 : decode cL_off 12 = .ok (.iload_n 1, 1) := by decide +kernel
theorem dL_off_13 : decode cL_off 13 = .ok (.iload_n 2, 1) := by decide +kernel
theorem dL_off_14 : decode cL_off 14 = .ok (.iconst 1, 1) := by decide +kernel
theorem dL_off_15 : decode cL_off 15 = .ok (.invokevirtual 61, 3) := by decide +kernel
theorem dL_off_18 : decode cL_off 18 = .ok (.iload 4, 2) := by decide +kernel
theorem dL_off_20 : decode cL_off 20 = .ok (.if_icmp .ne 31, 3) := by decide +kernel
theorem dL_off_23 : decode cL_off 23 = .ok (.aload_n 0, 1) := by decide +kernel
theorem dL_off_24 : decode cL_off 24 = .ok (.iload_n 1, 1) := by decide +kernel
theorem dL_off_25 : decode cL_off 25 = .ok (.iload_n 2, 1) := by decide +kernel
theorem dL_off_26 : decode cL_off 26 = .ok (.iconst 2, 1) := by decide +kernel
theorem dL_off_27 : decode cL_off 27 = .ok (.invokevirtual 61, 3) := by decide +kernel
theorem dL_off_30 : decode cL_off 30 = .ok (.iload 5, 2) := by decide +kernel
theorem dL_off_32 : decode cL_off 32 = .ok (.if_icmp .ne 19, 3) := by decide +kernel
theorem dL_off_35 : decode cL_off 35 = .ok (.aload_n 0, 1) := by decide +kernel
theorem dL_off_36 : decode cL_off 36 = .ok (.iload_n 1, 1) := by decide +kernel
theorem dL_off_37 : decode cL_off 37 = .ok (.iload_n 2, 1) := by decide +kernel
theorem dL_off_38 : decode cL_off 38 = .ok (.iconst 3, 1) := by decide +kernel
theorem dL_off_39 : decode cL_off 39 = .ok (.invokevirtual 61, 3) := by decide +kernel
theorem dL_off_42 : decode cL_off 42 = .ok (.iload 6, 2) := by decide +kernel
theorem dL_off_44 : decode cL_off 44 = .ok (.if_icmp .ne 7, 3) := by decide +kernel
theorem dL_off_47 : decode cL_off 47 = .ok (.iconst 1, 1) := by decide +kernel
theorem dL_off_48 : decode cL_off 48 = .ok (.goto 4, 3) := by decide +kernel
theorem dL_off_51 : decode cL_off 51 = .ok (.iconst 0, 1) := by decide +kernel
theorem dL_off_52 : decode cL_off 52 = .ok (.ireturn, 1) := by decide +kernel
theorem dL_path_0 : decode cL_path 0 = .ok (.aload_n 0, 1) := by decide +kernel
theorem dL_path_1 : decode cL_path 1 = .ok (.iload_n 1, 1) := by decide +kernel
theorem dL_path_2 : decode cL_path 2 = .ok (.iconst 0, 1) := by decide +kernel
theorem dL_path_3 : decode cL_path 3 = .ok (.invokevirtual 52, 3) := by decide +kernel
theorem dL_path_6 : decode cL_path 6 = .ok (.iload_n 2, 1) := by decide +kernel
theorem dL_path_7 : decode cL_path 7 = .ok (.if_icmp .ne 61, 3) := by decide +kernel
theorem dL_path_10 : decode cL_path 10 = .ok (.aload_n 0, 1) := by decide +kernel
theorem dL_path_11 : decode cL_path 11 = .ok (.iload_n 1, 1) := by decide +kernel
theorem dL_path_12 : decode cL_path 12 = .ok (.iconst 1, 1) := by decide +kernel
theorem dL_path_13 : decode cL_path 13 = .ok (.invokevirtual 52, 3) := by decide +kernel
theorem dL_path_16 : decode cL_path 16 = .ok (.iload_n 3, 1) := by decide +kernel
theorem dL_path_17 : decode cL_path 17 = .ok (.if_icmp .ne 51, 3) := by decide +kernel
theorem dL_path_20 : decode cL_path 20 = .ok (.aload_n 0, 1) := by decide +kernel
theorem dL_path_21 : decode cL_path 21 = .ok (.iload_n 1, 1) := by decide +kernel
theorem dL_path_22 : decode cL_path 22 = .ok (.iconst 2, 1) := by decide +kernel
theorem dL_path_23 : decode cL_path 23 = .ok (.invokevirtual 52, 3) := by decide +kernel
theorem dL_path_26 : decode cL_path 26 = .ok (.iload 4, 2) := by decide +kernel
theorem dL_path_28 : decode cL_path 28 = .ok (.if_icmp .ne 40, 3) := by decide +kernel
theorem dL_path_31 : decode cL_path 31 = .ok (.aload_n 0, 1) := by decide +kernel
theorem dL_path_32 : decode cL_path 32 = .ok (.iload_n 1, 1) := by decide +kernel
theorem dL_path_33 : decode cL_path 33 = .ok (.iconst 3, 1) := by decide +kernel
theorem dL_path_34 : decode cL_path 34 = .ok (.invokevirtual 52, 3) := by decide +kernel
theorem dL_path_37 : decode cL_path 37 = .ok (.iload 5, 2) := by decide +kernel
theorem dL_path_39 : decode cL_path 39 = .ok (.if_icmp .ne 29, 3) := by decide +kernel
theorem dL_path_42 : decode cL_path 42 = .ok (.aload_n 0, 1) := by decide +kernel
theorem dL_path_43 : decode cL_path 43 = .ok (.iload_n 1, 1) := by decide +kernel
theorem dL_path_44 : decode cL_path 44 = .ok (.iconst 4, 1) := by decide +kernel
theorem dL_path_45 : decode cL_path 45 = .ok (.invokevirtual 52, 3) := by decide +kernel
theorem dL_path_48 : decode cL_path 48 = .ok (.iload 6, 2) := by decide +kernel
theorem dL_path_50 : decode cL_path 50 = .ok (.if_icmp .ne 18, 3) := by decide +kernel
theorem dL_path_53 : decode cL_path 53 = .ok (.aload_n 0, 1) := by decide +kernel
theorem dL_path_54 : decode cL_path 54 = .ok (.iload_n 1, 1) := by decide +kernel
theorem dL_path_55 : decode cL_path 55 = .ok (.ldc 82, 2) := by decide +kernel
theorem dL_path_57 : decode cL_path 57 = .ok (.invokevirtual 52, 3) := by decide +kernel
theorem dL_path_60 : decode cL_path 60 = .ok (.iconst (-1), 1) := by decide +kernel
theorem dL_path_61 : decode cL_path 61 = .ok (.if_icmp .ne 7, 3) := by decide +kernel
theorem dL_path_64 : decode cL_path 64 = .ok (.iconst 1, 1) := by decide +kernel
theorem dL_path_65 : decode cL_path 65 = .ok (.goto 4, 3) := by decide +kernel
theorem dL_path_68 : decode cL_path 68 = .ok (.iconst 0, 1) := by decide +kernel
theorem dL_path_69 : decode cL_path 69 = .ok (.ireturn, 1) := by decide +kernel
theorem dL_value_0 : decode cL_value 0 = .ok (.aload_n 0, 1) := by decide +kernel
theorem dL_value_1 : decode cL_value 1 = .ok (.iload_n 1, 1) := by decide +kernel
theorem dL_value_2 : decode cL_value 2 = .ok (.iload_n 2, 1) := by decide +kernel
theorem dL_value_3 : decode cL_value 3 = .ok (.invokevirtual 40, 3) := by decide +kernel
theorem dL_value_6 : decode cL_value 6 = .ok (.iload_n 3, 1) := by decide +kernel
theorem dL_value_7 : decode cL_value 7 = .ok (.if_icmp .ne 17, 3) := by decide +kernel
theorem dL_value_10 : decode cL_value 10 = .ok (.aload_n 0, 1) := by decide +kernel
theorem dL_value_11 : decode cL_value 11 = .ok (.iload_n 1, 1) := by decide +kernel
theorem dL_value_12 : decode cL_value 12 = .ok (.iload_n 2, 1) := by decide +kernel
theorem dL_value_13 : decode cL_value 13 = .ok (.invokevirtual 43, 3) := by decide +kernel
theorem dL_value_16 : decode cL_value 16 = .ok (.iload_n 3, 1) := by decide +kernel
theorem dL_value_17 : decode cL_value 17 = .ok (.if_icmp .ne 7, 3) := by decide +kernel
theorem dL_value_20 : decode cL_value 20 = .ok (.iconst 1, 1) := by decide +kernel
theorem dL_value_21 : decode cL_value 21 = .ok (.goto 4, 3) := by decide +kernel
theorem dL_value_24 : decode cL_value 24 = .ok (.iconst 0, 1) := by decide +kernel
theorem dL_value_25 : decode cL_value 25 = .ok (.ireturn, 1) := by decide +kernel
theorem dL_adders_0 : decode cL_adders 0 = .ok (.new 8, 3) := by decide +kernel
theorem dL_adders_3 : decode cL_adders 3 = .ok (.dup, 1) := by decide +kernel
theorem dL_adders_4 : decode cL_adders 4 = .ok (.invokespecial 92, 3) := by decide +kernel
theorem dL_adders_7 : decode cL_adders 7 = .ok (.astore_n 0, 1) := by decide +kernel
theorem dL_adders_8 : decode cL_adders 8 = .ok (.aload_n 0, 1) := by decide +kernel
theorem dL_adders_9 : decode cL_adders 9 = .ok (.invokestatic 93, 3) := by decide +kernel
theorem dL_adders_12 : decode cL_adders 12 = .ok (.ifCond .eq 368, 3) := by decide +kernel
theorem dL_adders_15 : decode cL_adders 15 = .ok (.aload_n 0, 1) := by decide +kernel
theorem dL_adders_16 : decode cL_adders 16 = .ok (.iconst 2, 1) := by decide +kernel
theorem dL_adders_17 : decode cL_adders 17 = .ok (.iconst 0, 1) := by decide +kernel
theorem dL_adders_18 : decode cL_adders 18 = .ok (.iconst 0, 1) := by decide +kernel
theorem dL_adders_19 : decode cL_adders 19 = .ok (.iconst 0, 1) := by decide +kernel
theorem dL_adders_20 : decode cL_adders 20 = .ok (.iconst 0, 1) := by decide +kernel
theorem dL_adders_21 : decode cL_adders 21 = .ok (.iconst 0, 1) := by decide +kernel
theorem dL_adders_22 : decode cL_adders 22 = .ok (.iconst 0, 1) := by decide +kernel
theorem dL_adders_23 : decode cL_adders 23 = .ok (.invokestatic 97, 3) := by decide +kernel
theorem dL_adders_26 : decode cL_adders 26 = .ok (.ifCond .eq 354, 3) := by decide +kernel
theorem dL_adders_29 : decode cL_adders 29 = .ok (.aload_n 0, 1) := by decide +kernel
theorem dL_adders_30 : decode cL_adders 30 = .ok (.iconst 2, 1) := by decide +kernel
theorem dL_adders_31 : decode cL_adders 31 = .ok (.iconst 5, 1) := by decide +kernel
theorem dL_adders_32 : decode cL_adders 32 = .ok (.invokevirtual 46, 3) := by decide +kernel
theorem dL_adders_35 : decode cL_adders 35 = .ok (.ifCond .ne 345, 3) := by decide +kernel
theorem dL_adders_38 : decode cL_adders 38 = .ok (.aload_n 0, 1) := by decide +kernel
theorem dL_adders_39 : decode cL_adders 39 = .ok (.iconst 2, 1) := by decide +kernel
theorem dL_adders_40 : decode cL_adders 40 = .ok (.ldc 101, 2) := by decide +kernel
theorem dL_adders_42 : decode cL_adders 42 = .ok (.iconst 0, 1) := by decide +kernel
theorem dL_adders_43 : decode cL_adders 43 = .ok (.invokestatic 102, 3) := by decide +kernel
theorem dL_adders_46 : decode cL_adders 46 = .ok (.ifCond .eq 334, 3) := by decide +kernel
theorem dL_adders_49 : decode cL_adders 49 = .ok (.aload_n 0, 1) := by decide +kernel
theorem dL_adders_50 : decode cL_adders 50 = .ok (.iconst 2, 1) := by decide +kernel
theorem dL_adders_51 : decode cL_adders 51 = .ok (.iconst (-1), 1) := by decide +kernel
theorem dL_adders_52 : decode cL_adders 52 = .ok (.iconst (-1), 1) := by decide +kernel
theorem dL_adders_53 : decode cL_adders 53 = .ok (.iconst (-1), 1) := by decide +kernel
theorem dL_adders_54 : decode cL_adders 54 = .ok (.iconst (-1), 1) := by decide +kernel
theorem dL_adders_55 : decode cL_adders 55 = .ok (.iconst (-1), 1) := by decide +kernel
theorem dL_adders_56 : decode cL_adders 56 = .ok (.invokestatic 105, 3) := by decide +kernel
theorem dL_adders_59 : decode cL_adders 59 = .ok (.ifCond .eq 321, 3) := by decide +kernel
theorem dL_adders_62 : decode cL_adders 62 = .ok (.aload_n 0, 1) := by decide +kernel
theorem dL_adders_63 : decode cL_adders 63 = .ok (.iconst 2, 1) := by decide +kernel
theorem dL_adders_64 : decode cL_adders 64 = .ok (.iconst 0, 1) := by decide +kernel
theorem dL_adders_65 : decode cL_adders 65 = .ok (.bipush 9, 2) := by decide +kernel
theorem dL_adders_67 : decode cL_adders 67 = .ok (.iconst 0, 1) := by decide +kernel
theorem dL_adders_68 : decode cL_adders 68 = .ok (.iconst 0, 1) := by decide +kernel
theorem dL_adders_69 : decode cL_adders 69 = .ok (.iconst 0, 1) := by decide +kernel
theorem dL_adders_70 : decode cL_adders 70 = .ok (.invokestatic 108, 3) := by decide +kernel
theorem dL_adders_73 : decode cL_adders 73 = .ok (.ifCond .eq 307, 3) := by decide +kernel
theorem dL_adders_76 : decode cL_adders 76 = .ok (.aload_n 0, 1) := by decide +kernel
theorem dL_adders_77 : decode cL_adders 77 = .ok (.iconst 1, 1) := by decide +kernel
theorem dL_adders_78 : decode cL_adders 78 = .ok (.iconst 2, 1) := by decide +kernel
theorem dL_adders_79 : decode cL_adders 79 = .ok (.invokevirtual 67, 3) := by decide +kernel
theorem dL_adders_82 : decode cL_adders 82 = .ok (.iconst (-1), 1) := by decide +kernel
theorem dL_adders_83 : decode cL_adders 83 = .ok (.if_icmp .ne 297, 3) := by decide +kernel
theorem dL_adders_86 : decode cL_adders 86 = .ok (.aload_n 0, 1) := by decide +kernel
theorem dL_adders_87 : decode cL_adders 87 = .ok (.bipush 16, 2) := by decide +kernel
theorem dL_adders_89 : decode cL_adders 89 = .ok (.iconst 1, 1) := by decide +kernel
theorem dL_adders_90 : decode cL_adders 90 = .ok (.iconst 0, 1) := by decide +kernel
theorem dL_adders_91 : decode cL_adders 91 = .ok (.iconst 0, 1) := by decide +kernel
theorem dL_adders_92 : decode cL_adders 92 = .ok (.iconst 0, 1) := by decide +kernel
theorem dL_adders_93 : decode cL_adders 93 = .ok (.invokestatic 86, 3) := by decide +kernel
theorem dL_adders_96 : decode cL_adders 96 = .ok (.ldc 81, 2) := by decide +kernel
theorem dL_adders_98 : decode cL_adders 98 = .ok (.if_icmp .ne 282, 3) := by decide +kernel
theorem dL_adders_101 : decode cL_adders 101 = .ok (.aload_n 0, 1) := by decide +kernel
theorem dL_adders_102 : decode cL_adders 102 = .ok (.iconst 0, 1) := by decide +kernel
theorem dL_adders_103 : decode cL_adders 103 = .ok (.iconst 0, 1) := by decide +kernel
theorem dL_adders_104 : decode cL_adders 104 = .ok (.iconst 2, 1) := by decide +kernel
theorem dL_adders_105 : decode cL_adders 105 = .ok (.invokevirtual 21, 3) := by decide +kernel
theorem dL_adders_108 : decode cL_adders 108 = .ok (.bipush 11, 2) := by decide +kernel
theorem dL_adders_110 : decode cL_adders 110 = .ok (.if_icmp .ne 270, 3) := by decide +kernel
theorem dL_adders_113 : decode cL_adders 113 = .ok (.aload_n 0, 1) := by decide +kernel
theorem dL_adders_114 : decode cL_adders 114 = .ok (.iconst 0, 1) := by decide +kernel
theorem dL_adders_115 : decode cL_adders 115 = .ok (.bipush 11, 2) := by decide +kernel
theorem dL_adders_117 : decode cL_adders 117 = .ok (.iconst 4, 1) := by decide +kernel
theorem dL_adders_118 : decode cL_adders 118 = .ok (.iconst 3, 1) := by decide +kernel
theorem dL_adders_119 : decode cL_adders 119 = .ok (.bipush 7, 2) := by decide +kernel
theorem dL_adders_121 : decode cL_adders 121 = .ok (.iconst 3, 1) := by decide +kernel
theorem dL_adders_122 : decode cL_adders 122 = .ok (.iconst 0, 1) := by decide +kernel
theorem dL_adders_123 : decode cL_adders 123 = .ok (.invokestatic 97, 3) := by decide +kernel
theorem dL_adders_126 : decode cL_adders 126 = .ok (.ifCond .eq 254, 3) := by decide +kernel
theorem dL_adders_129 : decode cL_adders 129 = .ok (.aload_n 0, 1) := by decide +kernel
theorem dL_adders_130 : decode cL_adders 130 = .ok (.iconst 0, 1) := by decide +kernel
theorem dL_adders_131 : decode cL_adders 131 = .ok (.iconst 5, 1) := by decide +kernel
theorem dL_adders_132 : decode cL_adders 132 = .ok (.invokevirtual 46, 3) := by decide +kernel
theorem dL_adders_135 : decode cL_adders 135 = .ok (.iconst 2, 1) := by decide +kernel
theorem dL_adders_136 : decode cL_adders 136 = .ok (.if_icmp .ne 244, 3) := by decide +kernel
theorem dL_adders_139 : decode cL_adders 139 = .ok (.aload_n 0, 1) := by decide +kernel
theorem dL_adders_140 : decode cL_adders 140 = .ok (.iconst 0, 1) := by decide +kernel
theorem dL_adders_141 : decode cL_adders 141 = .ok (.bipush 7, 2) := by decide +kernel
theorem dL_adders_143 : decode cL_adders 143 = .ok (.iconst 4, 1) := by decide +kernel
theorem dL_adders_144 : decode cL_adders 144 = .ok (.invokestatic 102, 3) := by decide +kernel
theorem dL_adders_147 : decode cL_adders 147 = .ok (.ifCond .eq 233, 3) := by decide +kernel
theorem dL_adders_150 : decode cL_adders 150 = .ok (.aload_n 0, 1) := by decide +kernel
theorem dL_adders_151 : decode cL_adders 151 = .ok (.iconst 0, 1) := by decide +kernel
theorem dL_adders_152 : decode cL_adders 152 = .ok (.bipush 15, 2) := by decide +kernel
theorem dL_adders_154 : decode cL_adders 154 = .ok (.bipush 6, 2) := by decide +kernel
theorem dL_adders_156 : decode cL_adders 156 = .ok (.invokestatic 102, 3) := by decide +kernel
theorem dL_adders_159 : decode cL_adders 159 = .ok (.ifCond .eq 221, 3) := by decide +kernel
theorem dL_adders_162 : decode cL_adders 162 = .ok (.aload_n 0, 1) := by decide +kernel
