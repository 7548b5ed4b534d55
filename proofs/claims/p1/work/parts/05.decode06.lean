theorem d_Mo_isPerson_10 : decode b_Mo_isPerson 10 = .ok (.iaload, 1) := by decide +kernel
theorem d_Mo_isPerson_11 : decode b_Mo_isPerson 11 = .ok (.iconst 1, 1) := by decide +kernel
theorem d_Mo_isPerson_12 : decode b_Mo_isPerson 12 = .ok (.isub, 1) := by decide +kernel
theorem d_Mo_isPerson_13 : decode b_Mo_isPerson 13 = .ok (.invokestatic 305, 3) := by decide +kernel
theorem d_Mo_isPerson_16 : decode b_Mo_isPerson 16 = .ok (.ireturn, 1) := by decide +kernel
theorem d_Mo_isPlace_0 : decode b_Mo_isPlace 0 = .ok (.iload_n 1, 1) := by decide +kernel
theorem d_Mo_isPlace_1 : decode b_Mo_isPlace 1 = .ok (.iconst 0, 1) := by decide +kernel
theorem d_Mo_isPlace_2 : decode b_Mo_isPlace 2 = .ok (.aload_n 0, 1) := by decide +kernel
theorem d_Mo_isPlace_3 : decode b_Mo_isPlace 3 = .ok (.getfield 20, 3) := by decide +kernel
theorem d_Mo_isPlace_6 : decode b_Mo_isPlace 6 = .ok (.aload_n 0, 1) := by decide +kernel
theorem d_Mo_isPlace_7 : decode b_Mo_isPlace 7 = .ok (.getfield 240, 3) := by decide +kernel
theorem d_Mo_isPlace_10 : decode b_Mo_isPlace 10 = .ok (.iaload, 1) := by decide +kernel
theorem d_Mo_isPlace_11 : decode b_Mo_isPlace 11 = .ok (.iconst 1, 1) := by decide +kernel
theorem d_Mo_isPlace_12 : decode b_Mo_isPlace 12 = .ok (.isub, 1) := by decide +kernel
theorem d_Mo_isPlace_13 : decode b_Mo_isPlace 13 = .ok (.invokestatic 305, 3) := by decide +kernel
theorem d_Mo_isPlace_16 : decode b_Mo_isPlace 16 = .ok (.ireturn, 1) := by decide +kernel
theorem d_Mo_isWordNo_0 : decode b_Mo_isWordNo 0 = .ok (.iload_n 1, 1) := by decide +kernel
theorem d_Mo_isWordNo_1 : decode b_Mo_isWordNo 1 = .ok (.iconst 0, 1) := by decide +kernel
theorem d_Mo_isWordNo_2 : decode b_Mo_isWordNo 2 = .ok (.aload_n 0, 1) := by decide +kernel
theorem d_Mo_isWordNo_3 : decode b_Mo_isWordNo 3 = .ok (.getfield 27, 3) := by decide +kernel
theorem d_Mo_isWordNo_6 : decode b_Mo_isWordNo 6 = .ok (.aload_n 0, 1) := by decide +kernel
theorem d_Mo_isWordNo_7 : decode b_Mo_isWordNo 7 = .ok (.getfield 240, 3) := by decide +kernel
theorem d_Mo_isWordNo_10 : decode b_Mo_isWordNo 10 = .ok (.iaload, 1) := by decide +kernel
theorem d_Mo_isWordNo_11 : decode b_Mo_isWordNo 11 = .ok (.iconst 1, 1) := by decide +kernel
theorem d_Mo_isWordNo_12 : decode b_Mo_isWordNo 12 = .ok (.isub, 1) := by decide +kernel
theorem d_Mo_isWordNo_13 : decode b_Mo_isWordNo 13 = .ok (.invokestatic 305, 3) := by decide +kernel
theorem d_Mo_isWordNo_16 : decode b_Mo_isWordNo 16 = .ok (.ireturn, 1) := by decide +kernel
theorem d_Mo_judge_0 : decode b_Mo_judge 0 = .ok (.iload_n 3, 1) := by decide +kernel
theorem d_Mo_judge_1 : decode b_Mo_judge 1 = .ok (.iconst 1, 1) := by decide +kernel
theorem d_Mo_judge_2 : decode b_Mo_judge 2 = .ok (.if_icmp .lt 17, 3) := by decide +kernel
theorem d_Mo_judge_5 : decode b_Mo_judge 5 = .ok (.iload_n 3, 1) := by decide +kernel
theorem d_Mo_judge_6 : decode b_Mo_judge 6 = .ok (.ldc_w 377, 3) := by decide +kernel
theorem d_Mo_judge_9 : decode b_Mo_judge 9 = .ok (.if_icmp .ge 10, 3) := by decide +kernel
theorem d_Mo_judge_12 : decode b_Mo_judge 12 = .ok (.iload_n 3, 1) := by decide +kernel
theorem d_Mo_judge_13 : decode b_Mo_judge 13 = .ok (.bipush 32, 2) := by decide +kernel
theorem d_Mo_judge_15 : decode b_Mo_judge 15 = .ok (.irem, 1) := by decide +kernel
theorem d_Mo_judge_16 : decode b_Mo_judge 16 = .ok (.ifCond .ne 5, 3) := by decide +kernel
theorem d_Mo_judge_19 : decode b_Mo_judge 19 = .ok (.iconst (-1), 1) := by decide +kernel
theorem d_Mo_judge_20 : decode b_Mo_judge 20 = .ok (.ireturn, 1) := by decide +kernel
theorem d_Mo_judge_21 : decode b_Mo_judge 21 = .ok (.iload_n 3, 1) := by decide +kernel
theorem d_Mo_judge_22 : decode b_Mo_judge 22 = .ok (.istore 6, 2) := by decide +kernel
theorem d_Mo_judge_24 : decode b_Mo_judge 24 = .ok (.iload 6, 2) := by decide +kernel
theorem d_Mo_judge_26 : decode b_Mo_judge 26 = .ok (.bipush 32, 2) := by decide +kernel
theorem d_Mo_judge_28 : decode b_Mo_judge 28 = .ok (.irem, 1) := by decide +kernel
theorem d_Mo_judge_29 : decode b_Mo_judge 29 = .ok (.ifCond .le 29, 3) := by decide +kernel
theorem d_Mo_judge_32 : decode b_Mo_judge 32 = .ok (.aload_n 0, 1) := by decide +kernel
theorem d_Mo_judge_33 : decode b_Mo_judge 33 = .ok (.iload 6, 2) := by decide +kernel
theorem d_Mo_judge_35 : decode b_Mo_judge 35 = .ok (.bipush 32, 2) := by decide +kernel
theorem d_Mo_judge_37 : decode b_Mo_judge 37 = .ok (.irem, 1) := by decide +kernel
theorem d_Mo_judge_38 : decode b_Mo_judge 38 = .ok (.iconst 1, 1) := by decide +kernel
theorem d_Mo_judge_39 : decode b_Mo_judge 39 = .ok (.isub, 1) := by decide +kernel
theorem d_Mo_judge_40 : decode b_Mo_judge 40 = .ok (.invokevirtual 339, 3) := by decide +kernel
theorem d_Mo_judge_43 : decode b_Mo_judge 43 = .ok (.ifCond .ne 5, 3) := by decide +kernel
theorem d_Mo_judge_46 : decode b_Mo_judge 46 = .ok (.iconst (-1), 1) := by decide +kernel
theorem d_Mo_judge_47 : decode b_Mo_judge 47 = .ok (.ireturn, 1) := by decide +kernel
theorem d_Mo_judge_58 : decode b_Mo_judge 58 = .ok (.aload_n 0, 1) := by decide +kernel
theorem d_Mo_judge_59 : decode b_Mo_judge 59 = .ok (.iload_n 1, 1) := by decide +kernel
theorem d_Mo_judge_60 : decode b_Mo_judge 60 = .ok (.iload_n 2, 1) := by decide +kernel
theorem d_Mo_judge_61 : decode b_Mo_judge 61 = .ok (.iload 4, 2) := by decide +kernel
theorem d_Mo_judge_63 : decode b_Mo_judge 63 = .ok (.iload 5, 2) := by decide +kernel
theorem d_Mo_judge_65 : decode b_Mo_judge 65 = .ok (.invokevirtual 370, 3) := by decide +kernel
theorem d_Mo_judge_68 : decode b_Mo_judge 68 = .ok (.ifCond .ne 5, 3) := by decide +kernel
theorem d_Mo_judge_71 : decode b_Mo_judge 71 = .ok (.iconst (-1), 1) := by decide +kernel
theorem d_Mo_judge_72 : decode b_Mo_judge 72 = .ok (.ireturn, 1) := by decide +kernel
theorem d_Mo_land_0 : decode b_Mo_land 0 = .ok (.aload_n 0, 1) := by decide +kernel
theorem d_Mo_land_1 : decode b_Mo_land 1 = .ok (.iconst 0, 1) := by decide +kernel
theorem d_Mo_land_2 : decode b_Mo_land 2 = .ok (.putfield 145, 3) := by decide +kernel
theorem d_Mo_land_5 : decode b_Mo_land 5 = .ok (.aload_n 0, 1) := by decide +kernel
theorem d_Mo_land_6 : decode b_Mo_land 6 = .ok (.iconst (-1), 1) := by decide +kernel
theorem d_Mo_land_7 : decode b_Mo_land 7 = .ok (.putfield 16, 3) := by decide +kernel
theorem d_Mo_land_10 : decode b_Mo_land 10 = .ok (.aload_n 0, 1) := by decide +kernel
theorem d_Mo_land_11 : decode b_Mo_land 11 = .ok (.aload_n 0, 1) := by decide +kernel
theorem d_Mo_land_12 : decode b_Mo_land 12 = .ok (.getfield 237, 3) := by decide +kernel
theorem d_Mo_land_15 : decode b_Mo_land 15 = .ok (.putfield 142, 3) := by decide +kernel
theorem d_Mo_land_18 : decode b_Mo_land 18 = .ok (.iconst 0, 1) := by decide +kernel
theorem d_Mo_land_19 : decode b_Mo_land 19 = .ok (.istore_n 1, 1) := by decide +kernel
theorem d_Mo_land_20 : decode b_Mo_land 20 = .ok (.iload_n 1, 1) := by decide +kernel
theorem d_Mo_land_21 : decode b_Mo_land 21 = .ok (.aload_n 0, 1) := by decide +kernel
theorem d_Mo_land_22 : decode b_Mo_land 22 = .ok (.getfield 142, 3) := by decide +kernel
theorem d_Mo_land_25 : decode b_Mo_land 25 = .ok (.if_icmp .ge 21, 3) := by decide +kernel
theorem d_Mo_land_46 : decode b_Mo_land 46 = .ok (.aload_n 0, 1) := by decide +kernel
theorem d_Mo_land_47 : decode b_Mo_land 47 = .ok (.iconst 0, 1) := by decide +kernel
theorem d_Mo_land_48 : decode b_Mo_land 48 = .ok (.putfield 237, 3) := by decide +kernel
theorem d_Mo_land_51 : decode b_Mo_land 51 = .ok (.aload_n 0, 1) := by decide +kernel
theorem d_Mo_land_52 : decode b_Mo_land 52 = .ok (.iconst 0, 1) := by decide +kernel
theorem d_Mo_land_53 : decode b_Mo_land 53 = .ok (.putfield 192, 3) := by decide +kernel
theorem d_Mo_land_56 : decode b_Mo_land 56 = .ok (.aload_n 0, 1) := by decide +kernel
theorem d_Mo_land_57 : decode b_Mo_land 57 = .ok (.iconst 1, 1) := by decide +kernel
theorem d_Mo_land_58 : decode b_Mo_land 58 = .ok (.aload_n 0, 1) := by decide +kernel
theorem d_Mo_land_59 : decode b_Mo_land 59 = .ok (.getfield 240, 3) := by decide +kernel
theorem d_Mo_land_62 : decode b_Mo_land 62 = .ok (.isub, 1) := by decide +kernel
theorem d_Mo_land_63 : decode b_Mo_land 63 = .ok (.putfield 243, 3) := by decide +kernel
theorem d_Mo_land_66 : decode b_Mo_land 66 = .ok (.aload_n 0, 1) := by decide +kernel
theorem d_Mo_land_67 : decode b_Mo_land 67 = .ok (.getfield 20, 3) := by decide +kernel
theorem d_Mo_land_70 : decode b_Mo_land 70 = .ok (.aload_n 0, 1) := by decide +kernel
theorem d_Mo_land_71 : decode b_Mo_land 71 = .ok (.getfield 243, 3) := by decide +kernel
theorem d_Mo_land_74 : decode b_Mo_land 74 = .ok (.iconst 0, 1) := by decide +kernel
theorem d_Mo_land_75 : decode b_Mo_land 75 = .ok (.iastore, 1) := by decide +kernel
theorem d_Mo_land_76 : decode b_Mo_land 76 = .ok (.aload_n 0, 1) := by decide +kernel
theorem d_Mo_land_77 : decode b_Mo_land 77 = .ok (.getfield 24, 3) := by decide +kernel
theorem d_Mo_land_80 : decode b_Mo_land 80 = .ok (.aload_n 0, 1) := by decide +kernel
theorem d_Mo_land_81 : decode b_Mo_land 81 = .ok (.getfield 243, 3) := by decide +kernel
theorem d_Mo_land_84 : decode b_Mo_land 84 = .ok (.iconst 0, 1) := by decide +kernel
theorem d_Mo_land_85 : decode b_Mo_land 85 = .ok (.iastore, 1) := by decide +kernel
theorem d_Mo_land_86 : decode b_Mo_land 86 = .ok (.aload_n 0, 1) := by decide +kernel
theorem d_Mo_land_87 : decode b_Mo_land 87 = .ok (.getfield 27, 3) := by decide +kernel
theorem d_Mo_land_90 : decode b_Mo_land 90 = .ok (.aload_n 0, 1) := by decide +kernel
theorem d_Mo_land_91 : decode b_Mo_land 91 = .ok (.getfield 243, 3) := by decide +kernel
theorem d_Mo_land_94 : decode b_Mo_land 94 = .ok (.iconst 0, 1) := by decide +kernel
theorem d_Mo_land_95 : decode b_Mo_land 95 = .ok (.iastore, 1) := by decide +kernel
theorem d_Mo_land_96 : decode b_Mo_land 96 = .ok (.aload_n 0, 1) := by decide +kernel
theorem d_Mo_land_97 : decode b_Mo_land 97 = .ok (.getfield 30, 3) := by decide +kernel
theorem d_Mo_land_100 : decode b_Mo_land 100 = .ok (.aload_n 0, 1) := by decide +kernel
theorem d_Mo_land_101 : decode b_Mo_land 101 = .ok (.getfield 243, 3) := by decide +kernel
theorem d_Mo_land_104 : decode b_Mo_land 104 = .ok (.iconst 0, 1) := by decide +kernel
theorem d_Mo_land_105 : decode b_Mo_land 105 = .ok (.iastore, 1) := by decide +kernel
theorem d_Mo_land_106 : decode b_Mo_land 106 = .ok (.aload_n 0, 1) := by decide +kernel
theorem d_Mo_land_107 : decode b_Mo_land 107 = .ok (.getfield 33, 3) := by decide +kernel
theorem d_Mo_land_110 : decode b_Mo_land 110 = .ok (.aload_n 0, 1) := by decide +kernel
theorem d_Mo_land_111 : decode b_Mo_land 111 = .ok (.getfield 243, 3) := by decide +kernel
theorem d_Mo_land_114 : decode b_Mo_land 114 = .ok (.iconst 0, 1) := by decide +kernel
theorem d_Mo_land_115 : decode b_Mo_land 115 = .ok (.iastore, 1) := by decide +kernel
theorem d_Mo_land_116 : decode b_Mo_land 116 = .ok (.aload_n 0, 1) := by decide +kernel
theorem d_Mo_land_117 : decode b_Mo_land 117 = .ok (.getfield 36, 3) := by decide +kernel
theorem d_Mo_land_120 : decode b_Mo_land 120 = .ok (.aload_n 0, 1) := by decide +kernel
theorem d_Mo_land_121 : decode b_Mo_land 121 = .ok (.getfield 243, 3) := by decide +kernel
theorem d_Mo_land_124 : decode b_Mo_land 124 = .ok (.iconst 0, 1) := by decide +kernel
theorem d_Mo_land_125 : decode b_Mo_land 125 = .ok (.iastore, 1) := by decide +kernel
theorem d_Mo_land_126 : decode b_Mo_land 126 = .ok (.aload_n 0, 1) := by decide +kernel
theorem d_Mo_land_127 : decode b_Mo_land 127 = .ok (.getfield 39, 3) := by decide +kernel
theorem d_Mo_land_130 : decode b_Mo_land 130 = .ok (.aload_n 0, 1) := by decide +kernel
theorem d_Mo_land_131 : decode b_Mo_land 131 = .ok (.getfield 243, 3) := by decide +kernel
theorem d_Mo_land_134 : decode b_Mo_land 134 = .ok (.iconst 0, 1) := by decide +kernel
theorem d_Mo_land_135 : decode b_Mo_land 135 = .ok (.iastore, 1) := by decide +kernel
theorem d_Mo_land_136 : decode b_Mo_land 136 = .ok (.aload_n 0, 1) := by decide +kernel
theorem d_Mo_land_137 : decode b_Mo_land 137 = .ok (.invokevirtual 231, 3) := by decide +kernel
theorem d_Mo_land_140 : decode b_Mo_land 140 = .ok (.aload_n 0, 1) := by decide +kernel
theorem d_Mo_land_141 : decode b_Mo_land 141 = .ok (.invokevirtual 227, 3) := by decide +kernel
theorem d_Mo_land_144 : decode b_Mo_land 144 = .ok (.ifCond .eq 17, 3) := by decide +kernel
theorem d_Mo_land_147 : decode b_Mo_land 147 = .ok (.aload_n 0, 1) := by decide +kernel
theorem d_Mo_land_148 : decode b_Mo_land 148 = .ok (.getfield 202, 3) := by decide +kernel
theorem d_Mo_land_151 : decode b_Mo_land 151 = .ok (.ifCond .eq 10, 3) := by decide +kernel
theorem d_Mo_land_161 : decode b_Mo_land 161 = .ok (.aload_n 0, 1) := by decide +kernel
theorem d_Mo_land_162 : decode b_Mo_land 162 = .ok (.invokevirtual 227, 3) := by decide +kernel
theorem d_Mo_land_165 : decode b_Mo_land 165 = .ok (.ifCond .ne 5, 3) := by decide +kernel
theorem d_Mo_land_170 : decode b_Mo_land 170 = .ok (.aload_n 0, 1) := by decide +kernel
theorem d_Mo_land_171 : decode b_Mo_land 171 = .ok (.aload_n 0, 1) := by decide +kernel
theorem d_Mo_land_172 : decode b_Mo_land 172 = .ok (.getfield 243, 3) := by decide +kernel
theorem d_Mo_land_175 : decode b_Mo_land 175 = .ok (.putfield 240, 3) := by decide +kernel
theorem d_Mo_land_178 : decode b_Mo_land 178 = .ok (.aload_n 0, 1) := by decide +kernel
theorem d_Mo_land_179 : decode b_Mo_land 179 = .ok (.iconst 0, 1) := by decide +kernel
theorem d_Mo_land_180 : decode b_Mo_land 180 = .ok (.putfield 249, 3) := by decide +kernel
theorem d_Mo_land_183 : decode b_Mo_land 183 = .ok (.aload_n 0, 1) := by decide +kernel
theorem d_Mo_land_184 : decode b_Mo_land 184 = .ok (.invokevirtual 252, 3) := by decide +kernel
theorem d_Mo_land_187 : decode b_Mo_land 187 = .ok (.aload_n 0, 1) := by decide +kernel
theorem d_Mo_land_188 : decode b_Mo_land 188 = .ok (.getfield 39, 3) := by decide +kernel
theorem d_Mo_land_191 : decode b_Mo_land 191 = .ok (.aload_n 0, 1) := by decide +kernel
theorem d_Mo_land_192 : decode b_Mo_land 192 = .ok (.getfield 240, 3) := by decide +kernel
theorem d_Mo_land_195 : decode b_Mo_land 195 = .ok (.iaload, 1) := by decide +kernel
theorem d_Mo_land_196 : decode b_Mo_land 196 = .ok (.ireturn, 1) := by decide +kernel
theorem d_Mo_later_0 : decode b_Mo_later 0 = .ok (.iload_n 1, 1) := by decide +kernel
theorem d_Mo_later_1 : decode b_Mo_later 1 = .ok (.iconst 0, 1) := by decide +kernel
theorem d_Mo_later_2 : decode b_Mo_later 2 = .ok (.sipush 1000, 3) := by decide +kernel
theorem d_Mo_later_5 : decode b_Mo_later 5 = .ok (.invokestatic 305, 3) := by decide +kernel
theorem d_Mo_later_8 : decode b_Mo_later 8 = .ok (.ifCond .eq 15, 3) := by decide +kernel
theorem d_Mo_later_11 : decode b_Mo_later 11 = .ok (.aload_n 0, 1) := by decide +kernel
theorem d_Mo_later_12 : decode b_Mo_later 12 = .ok (.getfield 318, 3) := by decide +kernel
theorem d_Mo_later_15 : decode b_Mo_later 15 = .ok (.iload_n 1, 1) := by decide +kernel
theorem d_Mo_later_16 : decode b_Mo_later 16 = .ok (.iadd, 1) := by decide +kernel
theorem d_Mo_later_17 : decode b_Mo_later 17 = .ok (.ldc_w 321, 3) := by decide +kernel
theorem d_Mo_later_20 : decode b_Mo_later 20 = .ok (.if_icmp .le 5, 3) := by decide +kernel
theorem d_Mo_later_23 : decode b_Mo_later 23 = .ok (.iconst (-1), 1) := by decide +kernel
theorem d_Mo_later_24 : decode b_Mo_later 24 = .ok (.ireturn, 1) := by decide +kernel
theorem d_Mo_later_25 : decode b_Mo_later 25 = .ok (.aload_n 0, 1) := by decide +kernel
theorem d_Mo_later_26 : decode b_Mo_later 26 = .ok (.dup, 1) := by decide +kernel
theorem d_Mo_later_27 : decode b_Mo_later 27 = .ok (.getfield 318, 3) := by decide +kernel
theorem d_Mo_later_30 : decode b_Mo_later 30 = .ok (.iload_n 1, 1) := by decide +kernel
theorem d_Mo_later_31 : decode b_Mo_later 31 = .ok (.iadd, 1) := by decide +kernel
theorem d_Mo_later_32 : decode b_Mo_later 32 = .ok (.putfield 318, 3) := by decide +kernel
theorem d_Mo_later_35 : decode b_Mo_later 35 = .ok (.aload_n 0, 1) := by decide +kernel
theorem d_Mo_later_36 : decode b_Mo_later 36 = .ok (.getfield 318, 3) := by decide +kernel
theorem d_Mo_later_39 : decode b_Mo_later 39 = .ok (.ireturn, 1) := by decide +kernel
theorem d_Mo_layNear_0 : decode b_Mo_layNear 0 = .ok (.aload_n 0, 1) := by decide +kernel
theorem d_Mo_layNear_1 : decode b_Mo_layNear 1 = .ok (.getfield 33, 3) := by decide +kernel
theorem d_Mo_layNear_4 : decode b_Mo_layNear 4 = .ok (.aload_n 0, 1) := by decide +kernel
theorem d_Mo_layNear_5 : decode b_Mo_layNear 5 = .ok (.getfield 240, 3) := by decide +kernel
theorem d_Mo_layNear_8 : decode b_Mo_layNear 8 = .ok (.iaload, 1) := by decide +kernel
theorem d_Mo_layNear_9 : decode b_Mo_layNear 9 = .ok (.istore_n 1, 1) := by decide +kernel
theorem d_Mo_layNear_10 : decode b_Mo_layNear 10 = .ok (.iconst 0, 1) := by decide +kernel
theorem d_Mo_layNear_11 : decode b_Mo_layNear 11 = .ok (.istore_n 2, 1) := by decide +kernel
theorem d_Mo_layNear_12 : decode b_Mo_layNear 12 = .ok (.iload_n 2, 1) := by decide +kernel
theorem d_Mo_layNear_13 : decode b_Mo_layNear 13 = .ok (.iload_n 1, 1) := by decide +kernel
theorem d_Mo_layNear_14 : decode b_Mo_layNear 14 = .ok (.if_icmp .ge 66, 3) := by decide +kernel
theorem d_Mo_layNear_80 : decode b_Mo_layNear 80 = .ok (.iconst 0, 1) := by decide +kernel
theorem d_Mo_layNear_81 : decode b_Mo_layNear 81 = .ok (.istore_n 2, 1) := by decide +kernel
theorem d_Mo_layNear_82 : decode b_Mo_layNear 82 = .ok (.iload_n 2, 1) := by decide +kernel
theorem d_Mo_layNear_83 : decode b_Mo_layNear 83 = .ok (.iload_n 1, 1) := by decide +kernel
theorem d_Mo_layNear_84 : decode b_Mo_layNear 84 = .ok (.if_icmp .ge 88, 3) := by decide +kernel
theorem d_Mo_layNear_172 : decode b_Mo_layNear 172 = .ok (.return_, 1) := by decide +kernel
theorem d_Mo_may_0 : decode b_Mo_may 0 = .ok (.aload_n 0, 1) := by decide +kernel
theorem d_Mo_may_1 : decode b_Mo_may 1 = .ok (.iload_n 3, 1) := by decide +kernel
theorem d_Mo_may_2 : decode b_Mo_may 2 = .ok (.invokevirtual 339, 3) := by decide +kernel
theorem d_Mo_may_5 : decode b_Mo_may 5 = .ok (.ifCond .eq 16, 3) := by decide +kernel
theorem d_Mo_may_21 : decode b_Mo_may 21 = .ok (.iconst (-1), 1) := by decide +kernel
theorem d_Mo_may_22 : decode b_Mo_may 22 = .ok (.goto 20, 3) := by decide +kernel
theorem d_Mo_may_42 : decode b_Mo_may 42 = .ok (.ireturn, 1) := by decide +kernel
theorem d_Mo_mean_0 : decode b_Mo_mean 0 = .ok (.aload_n 0, 1) := by decide +kernel
theorem d_Mo_mean_1 : decode b_Mo_mean 1 = .ok (.iload_n 1, 1) := by decide +kernel
theorem d_Mo_mean_2 : decode b_Mo_mean 2 = .ok (.invokevirtual 402, 3) := by decide +kernel
theorem d_Mo_mean_5 : decode b_Mo_mean 5 = .ok (.ifCond .eq 30, 3) := by decide +kernel
theorem d_Mo_mean_35 : decode b_Mo_mean 35 = .ok (.ldc2_w 429, 3) := by decide +kernel
theorem d_Mo_mean_38 : decode b_Mo_mean 38 = .ok (.lreturn, 1) := by decide +kernel
theorem d_Mo_near_0 : decode b_Mo_near 0 = .ok (.aload_n 0, 1) := by decide +kernel
theorem d_Mo_near_1 : decode b_Mo_near 1 = .ok (.iload_n 1, 1) := by decide +kernel
theorem d_Mo_near_2 : decode b_Mo_near 2 = .ok (.invokevirtual 309, 3) := by decide +kernel
theorem d_Mo_near_5 : decode b_Mo_near 5 = .ok (.ifCond .eq 25, 3) := by decide +kernel
theorem d_Mo_near_30 : decode b_Mo_near 30 = .ok (.iconst (-1), 1) := by decide +kernel
theorem d_Mo_near_31 : decode b_Mo_near 31 = .ok (.ireturn, 1) := by decide +kernel
theorem d_Mo_old_0 : decode b_Mo_old 0 = .ok (.aload_n 0, 1) := by decide +kernel
theorem d_Mo_old_1 : decode b_Mo_old 1 = .ok (.iload_n 1, 1) := by decide +kernel
theorem d_Mo_old_2 : decode b_Mo_old 2 = .ok (.invokevirtual 388, 3) := by decide +kernel
theorem d_Mo_old_5 : decode b_Mo_old 5 = .ok (.ifCond .eq 12, 3) := by decide +kernel
theorem d_Mo_old_17 : decode b_Mo_old 17 = .ok (.iconst (-1), 1) := by decide +kernel
theorem d_Mo_old_18 : decode b_Mo_old 18 = .ok (.ireturn, 1) := by decide +kernel
theorem d_Mo_parted_0 : decode b_Mo_parted 0 = .ok (.aload_n 0, 1) := by decide +kernel
theorem d_Mo_parted_1 : decode b_Mo_parted 1 = .ok (.iload_n 1, 1) := by decide +kernel
theorem d_Mo_parted_2 : decode b_Mo_parted 2 = .ok (.invokevirtual 402, 3) := by decide +kernel
theorem d_Mo_parted_5 : decode b_Mo_parted 5 = .ok (.ifCond .eq 18, 3) := by decide +kernel
theorem d_Mo_parted_23 : decode b_Mo_parted 23 = .ok (.iconst (-1), 1) := by decide +kernel
theorem d_Mo_parted_24 : decode b_Mo_parted 24 = .ok (.ireturn, 1) := by decide +kernel
theorem d_Mo_renewed_0 : decode b_Mo_renewed 0 = .ok (.aload_n 0, 1) := by decide +kernel
theorem d_Mo_renewed_1 : decode b_Mo_renewed 1 = .ok (.iload_n 1, 1) := by decide +kernel
theorem d_Mo_renewed_2 : decode b_Mo_renewed 2 = .ok (.invokevirtual 402, 3) := by decide +kernel
theorem d_Mo_renewed_5 : decode b_Mo_renewed 5 = .ok (.ifCond .eq 11, 3) := by decide +kernel
theorem d_Mo_renewed_16 : decode b_Mo_renewed 16 = .ok (.iconst (-1), 1) := by decide +kernel
theorem d_Mo_renewed_17 : decode b_Mo_renewed 17 = .ok (.ireturn, 1) := by decide +kernel
theorem d_Mo_safe_0 : decode b_Mo_safe 0 = .ok (.aload_n 0, 1) := by decide +kernel
theorem d_Mo_safe_1 : decode b_Mo_safe 1 = .ok (.iload_n 1, 1) := by decide +kernel
theorem d_Mo_safe_2 : decode b_Mo_safe 2 = .ok (.invokevirtual 402, 3) := by decide +kernel
theorem d_Mo_safe_5 : decode b_Mo_safe 5 = .ok (.ifCond .eq 11, 3) := by decide +kernel
theorem d_Mo_safe_16 : decode b_Mo_safe 16 = .ok (.iconst (-1), 1) := by decide +kernel
theorem d_Mo_safe_17 : decode b_Mo_safe 17 = .ok (.ireturn, 1) := by decide +kernel
theorem d_Mo_sign_0 : decode b_Mo_sign 0 = .ok (.iload_n 1, 1) := by decide +kernel
theorem d_Mo_sign_1 : decode b_Mo_sign 1 = .ok (.aload_n 0, 1) := by decide +kernel
theorem d_Mo_sign_2 : decode b_Mo_sign 2 = .ok (.getfield 142, 3) := by decide +kernel
theorem d_Mo_sign_5 : decode b_Mo_sign 5 = .ok (.if_icmp .ge 16, 3) := by decide +kernel
theorem d_Mo_sign_21 : decode b_Mo_sign 21 = .ok (.iconst 0, 1) := by decide +kernel
theorem d_Mo_sign_22 : decode b_Mo_sign 22 = .ok (.ireturn, 1) := by decide +kernel
theorem d_Mo_speak_0 : decode b_Mo_speak 0 = .ok (.aload_n 0, 1) := by decide +kernel
theorem d_Mo_speak_1 : decode b_Mo_speak 1 = .ok (.iload_n 1, 1) := by decide +kernel
theorem d_Mo_speak_2 : decode b_Mo_speak 2 = .ok (.invokevirtual 309, 3) := by decide +kernel
theorem d_Mo_speak_5 : decode b_Mo_speak 5 = .ok (.ifCond .eq 23, 3) := by decide +kernel
theorem d_Mo_speak_28 : decode b_Mo_speak 28 = .ok (.iconst 0, 1) := by decide +kernel
theorem d_Mo_speak_29 : decode b_Mo_speak 29 = .ok (.ireturn, 1) := by decide +kernel
theorem d_Mo_tell_0 : decode b_Mo_tell 0 = .ok (.aload_n 0, 1) := by decide +kernel
theorem d_Mo_tell_1 : decode b_Mo_tell 1 = .ok (.iload_n 3, 1) := by decide +kernel
theorem d_Mo_tell_2 : decode b_Mo_tell 2 = .ok (.invokevirtual 388, 3) := by decide +kernel
theorem d_Mo_tell_5 : decode b_Mo_tell 5 = .ok (.ifCond .eq 28, 3) := by decide +kernel
theorem d_Mo_tell_33 : decode b_Mo_tell 33 = .ok (.iconst (-1), 1) := by decide +kernel
theorem d_Mo_tell_34 : decode b_Mo_tell 34 = .ok (.ireturn, 1) := by decide +kernel
theorem d_Mo_today_0 : decode b_Mo_today 0 = .ok (.aload_n 0, 1) := by decide +kernel
theorem d_Mo_today_1 : decode b_Mo_today 1 = .ok (.iload_n 1, 1) := by decide +kernel
theorem d_Mo_today_2 : decode b_Mo_today 2 = .ok (.invokevirtual 402, 3) := by decide +kernel
theorem d_Mo_today_5 : decode b_Mo_today 5 = .ok (.ifCond .eq 18, 3) := by decide +kernel
theorem d_Mo_today_23 : decode b_Mo_today 23 = .ok (.iconst (-1), 1) := by decide +kernel
theorem d_Mo_today_24 : decode b_Mo_today 24 = .ok (.ireturn, 1) := by decide +kernel
theorem d_Mo_told_0 : decode b_Mo_told 0 = .ok (.aload_n 0, 1) := by decide +kernel
theorem d_Mo_told_1 : decode b_Mo_told 1 = .ok (.iload_n 1, 1) := by decide +kernel
theorem d_Mo_told_2 : decode b_Mo_told 2 = .ok (.iload_n 2, 1) := by decide +kernel
theorem d_Mo_told_3 : decode b_Mo_told 3 = .ok (.iload_n 3, 1) := by decide +kernel
theorem d_Mo_told_4 : decode b_Mo_told 4 = .ok (.iload 4, 2) := by decide +kernel
theorem d_Mo_told_6 : decode b_Mo_told 6 = .ok (.iload 6, 2) := by decide +kernel
theorem d_Mo_told_8 : decode b_Mo_told 8 = .ok (.invokevirtual 423, 3) := by decide +kernel
theorem d_Mo_told_11 : decode b_Mo_told 11 = .ok (.istore 7, 2) := by decide +kernel
theorem d_Mo_told_13 : decode b_Mo_told 13 = .ok (.iload 5, 2) := by decide +kernel
theorem d_Mo_told_15 : decode b_Mo_told 15 = .ok (.iconst 0, 1) := by decide +kernel
theorem d_Mo_told_16 : decode b_Mo_told 16 = .ok (.iload 7, 2) := by decide +kernel
theorem d_Mo_told_18 : decode b_Mo_told 18 = .ok (.iconst 1, 1) := by decide +kernel
theorem d_Mo_told_19 : decode b_Mo_told 19 = .ok (.isub, 1) := by decide +kernel
theorem d_Mo_told_20 : decode b_Mo_told 20 = .ok (.invokestatic 305, 3) := by decide +kernel
theorem d_Mo_told_23 : decode b_Mo_told 23 = .ok (.ifCond .eq 13, 3) := by decide +kernel
theorem d_Mo_told_36 : decode b_Mo_told 36 = .ok (.iconst (-1), 1) := by decide +kernel
theorem d_Mo_told_37 : decode b_Mo_told 37 = .ok (.ireturn, 1) := by decide +kernel
theorem d_Mo_untell_0 : decode b_Mo_untell 0 = .ok (.iload_n 1, 1) := by decide +kernel
theorem d_Mo_untell_1 : decode b_Mo_untell 1 = .ok (.iconst 0, 1) := by decide +kernel
theorem d_Mo_untell_2 : decode b_Mo_untell 2 = .ok (.aload_n 0, 1) := by decide +kernel
theorem d_Mo_untell_3 : decode b_Mo_untell 3 = .ok (.getfield 249, 3) := by decide +kernel
theorem d_Mo_untell_6 : decode b_Mo_untell 6 = .ok (.iconst 1, 1) := by decide +kernel
theorem d_Mo_untell_7 : decode b_Mo_untell 7 = .ok (.isub, 1) := by decide +kernel
theorem d_Mo_untell_8 : decode b_Mo_untell 8 = .ok (.invokestatic 305, 3) := by decide +kernel
theorem d_Mo_untell_11 : decode b_Mo_untell 11 = .ok (.ifCond .eq 12, 3) := by decide +kernel
theorem d_Mo_untell_23 : decode b_Mo_untell 23 = .ok (.iconst 0, 1) := by decide +kernel
theorem d_Mo_untell_24 : decode b_Mo_untell 24 = .ok (.ireturn, 1) := by decide +kernel
theorem d_Mo_wish_0 : decode b_Mo_wish 0 = .ok (.aload_n 0, 1) := by decide +kernel
theorem d_Mo_wish_1 : decode b_Mo_wish 1 = .ok (.iload_n 1, 1) := by decide +kernel
theorem d_Mo_wish_2 : decode b_Mo_wish 2 = .ok (.invokevirtual 402, 3) := by decide +kernel
theorem d_Mo_wish_5 : decode b_Mo_wish 5 = .ok (.ifCond .eq 10, 3) := by decide +kernel
theorem d_Mo_wish_15 : decode b_Mo_wish 15 = .ok (.iconst (-1), 1) := by decide +kernel
theorem d_Mo_wish_16 : decode b_Mo_wish 16 = .ok (.ireturn, 1) := by decide +kernel
theorem d_Str_charAt_0 : decode b_Str_charAt 0 = .ok (.aload_n 0, 1) := by decide +kernel
theorem d_Str_charAt_1 : decode b_Str_charAt 1 = .ok (.invokevirtual 492, 3) := by decide +kernel
theorem d_Str_charAt_4 : decode b_Str_charAt 4 = .ok (.ifCond .eq 12, 3) := by decide +kernel
theorem d_Str_charAt_7 : decode b_Str_charAt 7 = .ok (.aload_n 0, 1) := by decide +kernel
theorem d_Str_charAt_8 : decode b_Str_charAt 8 = .ok (.getfield 9, 3) := by decide +kernel
theorem d_Str_charAt_11 : decode b_Str_charAt 11 = .ok (.iload_n 1, 1) := by decide +kernel
theorem d_Str_charAt_12 : decode b_Str_charAt 12 = .ok (.invokestatic 495, 3) := by decide +kernel
theorem d_Str_charAt_15 : decode b_Str_charAt 15 = .ok (.ireturn, 1) := by decide +kernel
theorem d_Str_checkIndex_0 : decode b_Str_checkIndex 0 = .ok (.iload_n 0, 1) := by decide +kernel
theorem d_Str_checkIndex_1 : decode b_Str_checkIndex 1 = .ok (.iload_n 1, 1) := by decide +kernel
theorem d_Str_checkIndex_2 : decode b_Str_checkIndex 2 = .ok (.getstatic 1053, 3) := by decide +kernel
theorem d_Str_checkIndex_5 : decode b_Str_checkIndex 5 = .ok (.invokestatic 1059, 3) := by decide +kernel
theorem d_Str_checkIndex_8 : decode b_Str_checkIndex 8 = .ok (.pop, 1) := by decide +kernel
theorem d_Str_checkIndex_9 : decode b_Str_checkIndex 9 = .ok (.return_, 1) := by decide +kernel
theorem d_Str_coder_0 : decode b_Str_coder 0 = .ok (.getstatic 38, 3) := by decide +kernel
theorem d_Str_coder_3 : decode b_Str_coder 3 = .ok (.ifCond .eq 10, 3) := by decide +kernel
theorem d_Str_coder_6 : decode b_Str_coder 6 = .ok (.aload_n 0, 1) := by decide +kernel
theorem d_Str_coder_7 : decode b_Str_coder 7 = .ok (.getfield 15, 3) := by decide +kernel
theorem d_Str_coder_10 : decode b_Str_coder 10 = .ok (.goto 4, 3) := by decide +kernel
theorem d_Str_coder_14 : decode b_Str_coder 14 = .ok (.ireturn, 1) := by decide +kernel
theorem d_Str_isLatin1_0 : decode b_Str_isLatin1 0 = .ok (.getstatic 38, 3) := by decide +kernel
theorem d_Str_isLatin1_3 : decode b_Str_isLatin1 3 = .ok (.ifCond .eq 14, 3) := by decide +kernel
theorem d_Str_isLatin1_6 : decode b_Str_isLatin1 6 = .ok (.aload_n 0, 1) := by decide +kernel
theorem d_Str_isLatin1_7 : decode b_Str_isLatin1 7 = .ok (.getfield 15, 3) := by decide +kernel
theorem d_Str_isLatin1_10 : decode b_Str_isLatin1 10 = .ok (.ifCond .ne 7, 3) := by decide +kernel
theorem d_Str_isLatin1_13 : decode b_Str_isLatin1 13 = .ok (.iconst 1, 1) := by decide +kernel
theorem d_Str_isLatin1_14 : decode b_Str_isLatin1 14 = .ok (.goto 4, 3) := by decide +kernel
theorem d_Str_isLatin1_18 : decode b_Str_isLatin1 18 = .ok (.ireturn, 1) := by decide +kernel
theorem d_Str_length_0 : decode b_Str_length 0 = .ok (.aload_n 0, 1) := by decide +kernel
theorem d_Str_length_1 : decode b_Str_length 1 = .ok (.getfield 9, 3) := by decide +kernel
theorem d_Str_length_4 : decode b_Str_length 4 = .ok (.arraylength, 1) := by decide +kernel
theorem d_Str_length_5 : decode b_Str_length 5 = .ok (.aload_n 0, 1) := by decide +kernel
theorem d_Str_length_6 : decode b_Str_length 6 = .ok (.invokevirtual 335, 3) := by decide +kernel
theorem d_Str_length_9 : decode b_Str_length 9 = .ok (.ishr, 1) := by decide +kernel
theorem d_Str_length_10 : decode b_Str_length 10 = .ok (.ireturn, 1) := by decide +kernel
theorem d_Lat_charAt_0 : decode b_Lat_charAt 0 = .ok (.iload_n 1, 1) := by decide +kernel
theorem d_Lat_charAt_1 : decode b_Lat_charAt 1 = .ok (.aload_n 0, 1) := by decide +kernel
theorem d_Lat_charAt_2 : decode b_Lat_charAt 2 = .ok (.arraylength, 1) := by decide +kernel
theorem d_Lat_charAt_3 : decode b_Lat_charAt 3 = .ok (.invokestatic 9, 3) := by decide +kernel
theorem d_Lat_charAt_6 : decode b_Lat_charAt 6 = .ok (.aload_n 0, 1) := by decide +kernel
theorem d_Lat_charAt_7 : decode b_Lat_charAt 7 = .ok (.iload_n 1, 1) := by decide +kernel
theorem d_Lat_charAt_8 : decode b_Lat_charAt 8 = .ok (.baload, 1) := by decide +kernel
theorem d_Lat_charAt_9 : decode b_Lat_charAt 9 = .ok (.sipush 255, 3) := by decide +kernel
theorem d_Lat_charAt_12 : decode b_Lat_charAt 12 = .ok (.iand, 1) := by decide +kernel
theorem d_Lat_charAt_13 : decode b_Lat_charAt 13 = .ok (.i2c, 1) := by decide +kernel
theorem d_Lat_charAt_14 : decode b_Lat_charAt 14 = .ok (.ireturn, 1) := by decide +kernel
theorem d_Pre_checkIndex_0 : decode b_Pre_checkIndex 0 = .ok (.iload_n 0, 1) := by decide +kernel
theorem d_Pre_checkIndex_1 : decode b_Pre_checkIndex 1 = .ok (.ifCond .lt 8, 3) := by decide +kernel
theorem d_Pre_checkIndex_4 : decode b_Pre_checkIndex 4 = .ok (.iload_n 0, 1) := by decide +kernel
theorem d_Pre_checkIndex_5 : decode b_Pre_checkIndex 5 = .ok (.iload_n 1, 1) := by decide +kernel
theorem d_Pre_checkIndex_6 : decode b_Pre_checkIndex 6 = .ok (.if_icmp .lt 10, 3) := by decide +kernel
theorem d_Pre_checkIndex_16 : decode b_Pre_checkIndex 16 = .ok (.iload_n 0, 1) := by decide +kernel
theorem d_Pre_checkIndex_17 : decode b_Pre_checkIndex 17 = .ok (.ireturn, 1) := by decide +kernel
