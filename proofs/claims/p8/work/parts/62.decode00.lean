theorem d_law_law_0 : decode code 0 = .ok (.new 7, 3) := by decide +kernel
theorem d_law_law_3 : decode code 3 = .ok (.dup, 1) := by decide +kernel
theorem d_law_law_4 : decode code 4 = .ok (.invokespecial 9, 3) := by decide +kernel
theorem d_law_law_7 : decode code 7 = .ok (.astore_n 1, 1) := by decide +kernel
theorem d_law_law_8 : decode code 8 = .ok (.new 10, 3) := by decide +kernel
theorem d_law_law_11 : decode code 11 = .ok (.dup, 1) := by decide +kernel
theorem d_law_law_12 : decode code 12 = .ok (.invokespecial 12, 3) := by decide +kernel
theorem d_law_law_15 : decode code 15 = .ok (.astore_n 2, 1) := by decide +kernel
theorem d_law_law_16 : decode code 16 = .ok (.iconst 0, 1) := by decide +kernel
theorem d_law_law_17 : decode code 17 = .ok (.istore_n 3, 1) := by decide +kernel
theorem d_NF_init_0 : decode b_NF_init 0 = .ok (.aload_n 0, 1) := by decide +kernel
theorem d_NF_init_1 : decode b_NF_init 1 = .ok (.invokespecial 1, 3) := by decide +kernel
theorem d_NF_init_4 : decode b_NF_init 4 = .ok (.sipush 1600, 3) := by decide +kernel
theorem d_NF_init_7 : decode b_NF_init 7 = .ok (.newarray .byte, 2) := by decide +kernel
theorem d_NF_init_9 : decode b_NF_init 9 = .ok (.astore_n 1, 1) := by decide +kernel
theorem d_NF_init_10 : decode b_NF_init 10 = .ok (.new 9, 3) := by decide +kernel
theorem d_NF_init_13 : decode b_NF_init 13 = .ok (.dup, 1) := by decide +kernel
theorem d_NF_init_14 : decode b_NF_init 14 = .ok (.invokespecial 11, 3) := by decide +kernel
theorem d_NF_init_17 : decode b_NF_init 17 = .ok (.astore_n 2, 1) := by decide +kernel
theorem d_NF_init_18 : decode b_NF_init 18 = .ok (.new 12, 3) := by decide +kernel
theorem d_NF_init_21 : decode b_NF_init 21 = .ok (.dup, 1) := by decide +kernel
theorem d_NF_init_22 : decode b_NF_init 22 = .ok (.aload_n 2, 1) := by decide +kernel
theorem d_NF_init_23 : decode b_NF_init 23 = .ok (.invokespecial 14, 3) := by decide +kernel
theorem d_NF_init_26 : decode b_NF_init 26 = .ok (.astore_n 3, 1) := by decide +kernel
theorem d_NF_init_27 : decode b_NF_init 27 = .ok (.aload_n 0, 1) := by decide +kernel
theorem d_NF_init_28 : decode b_NF_init 28 = .ok (.aload_n 1, 1) := by decide +kernel
theorem d_NF_init_29 : decode b_NF_init 29 = .ok (.putfield 17, 3) := by decide +kernel
theorem d_NF_init_32 : decode b_NF_init 32 = .ok (.aload_n 0, 1) := by decide +kernel
theorem d_NF_init_33 : decode b_NF_init 33 = .ok (.aload_n 2, 1) := by decide +kernel
theorem d_NF_init_34 : decode b_NF_init 34 = .ok (.putfield 21, 3) := by decide +kernel
theorem d_NF_init_37 : decode b_NF_init 37 = .ok (.aload_n 0, 1) := by decide +kernel
theorem d_NF_init_38 : decode b_NF_init 38 = .ok (.new 9, 3) := by decide +kernel
theorem d_NF_init_41 : decode b_NF_init 41 = .ok (.dup, 1) := by decide +kernel
theorem d_NF_init_42 : decode b_NF_init 42 = .ok (.invokespecial 11, 3) := by decide +kernel
theorem d_NF_init_45 : decode b_NF_init 45 = .ok (.putfield 25, 3) := by decide +kernel
theorem d_NF_init_48 : decode b_NF_init 48 = .ok (.aload_n 0, 1) := by decide +kernel
theorem d_NF_init_49 : decode b_NF_init 49 = .ok (.new 28, 3) := by decide +kernel
theorem d_NF_init_52 : decode b_NF_init 52 = .ok (.dup, 1) := by decide +kernel
theorem d_NF_init_53 : decode b_NF_init 53 = .ok (.new 30, 3) := by decide +kernel
theorem d_NF_init_56 : decode b_NF_init 56 = .ok (.dup, 1) := by decide +kernel
theorem d_NF_init_57 : decode b_NF_init 57 = .ok (.aload_n 1, 1) := by decide +kernel
theorem d_NF_init_58 : decode b_NF_init 58 = .ok (.invokespecial 32, 3) := by decide +kernel
theorem d_NF_init_61 : decode b_NF_init 61 = .ok (.invokespecial 35, 3) := by decide +kernel
theorem d_NF_init_64 : decode b_NF_init 64 = .ok (.putfield 38, 3) := by decide +kernel
theorem d_NF_init_67 : decode b_NF_init 67 = .ok (.aload_n 0, 1) := by decide +kernel
theorem d_NF_init_68 : decode b_NF_init 68 = .ok (.new 42, 3) := by decide +kernel
theorem d_NF_init_71 : decode b_NF_init 71 = .ok (.dup, 1) := by decide +kernel
theorem d_NF_init_72 : decode b_NF_init 72 = .ok (.invokespecial 44, 3) := by decide +kernel
theorem d_NF_init_75 : decode b_NF_init 75 = .ok (.putfield 45, 3) := by decide +kernel
theorem d_NF_init_78 : decode b_NF_init 78 = .ok (.aload_n 0, 1) := by decide +kernel
theorem d_NF_init_79 : decode b_NF_init 79 = .ok (.aload_n 3, 1) := by decide +kernel
theorem d_NF_init_80 : decode b_NF_init 80 = .ok (.putfield 49, 3) := by decide +kernel
theorem d_NF_init_83 : decode b_NF_init 83 = .ok (.aload_n 0, 1) := by decide +kernel
theorem d_NF_init_84 : decode b_NF_init 84 = .ok (.new 53, 3) := by decide +kernel
theorem d_NF_init_87 : decode b_NF_init 87 = .ok (.dup, 1) := by decide +kernel
theorem d_NF_init_88 : decode b_NF_init 88 = .ok (.aload_n 3, 1) := by decide +kernel
theorem d_NF_init_89 : decode b_NF_init 89 = .ok (.invokespecial 55, 3) := by decide +kernel
theorem d_NF_init_92 : decode b_NF_init 92 = .ok (.putfield 58, 3) := by decide +kernel
theorem d_NF_init_95 : decode b_NF_init 95 = .ok (.aload_n 0, 1) := by decide +kernel
theorem d_NF_init_96 : decode b_NF_init 96 = .ok (.new 62, 3) := by decide +kernel
theorem d_NF_init_99 : decode b_NF_init 99 = .ok (.dup, 1) := by decide +kernel
theorem d_NF_init_100 : decode b_NF_init 100 = .ok (.invokespecial 64, 3) := by decide +kernel
theorem d_NF_init_103 : decode b_NF_init 103 = .ok (.putfield 65, 3) := by decide +kernel
theorem d_NF_init_106 : decode b_NF_init 106 = .ok (.aload_n 0, 1) := by decide +kernel
theorem d_NF_init_107 : decode b_NF_init 107 = .ok (.bipush 8, 2) := by decide +kernel
theorem d_NF_init_109 : decode b_NF_init 109 = .ok (.newarray .int, 2) := by decide +kernel
theorem d_NF_init_111 : decode b_NF_init 111 = .ok (.putfield 69, 3) := by decide +kernel
theorem d_NF_init_114 : decode b_NF_init 114 = .ok (.aload_n 0, 1) := by decide +kernel
theorem d_NF_init_115 : decode b_NF_init 115 = .ok (.bipush 8, 2) := by decide +kernel
theorem d_NF_init_117 : decode b_NF_init 117 = .ok (.newarray .int, 2) := by decide +kernel
theorem d_NF_init_119 : decode b_NF_init 119 = .ok (.putfield 73, 3) := by decide +kernel
theorem d_NF_init_122 : decode b_NF_init 122 = .ok (.return_, 1) := by decide +kernel
theorem d_Chances_init_0 : decode b_Chances_init 0 = .ok (.aload_n 0, 1) := by decide +kernel
theorem d_Chances_init_1 : decode b_Chances_init 1 = .ok (.invokespecial 3, 3) := by decide +kernel
theorem d_Chances_init_4 : decode b_Chances_init 4 = .ok (.aload_n 0, 1) := by decide +kernel
theorem d_Chances_init_5 : decode b_Chances_init 5 = .ok (.bipush 10, 2) := by decide +kernel
theorem d_Chances_init_7 : decode b_Chances_init 7 = .ok (.newarray .int, 2) := by decide +kernel
theorem d_Chances_init_9 : decode b_Chances_init 9 = .ok (.putfield 9, 3) := by decide +kernel
theorem d_Chances_init_12 : decode b_Chances_init 12 = .ok (.aload_n 0, 1) := by decide +kernel
theorem d_Chances_init_13 : decode b_Chances_init 13 = .ok (.bipush 11, 2) := by decide +kernel
theorem d_Chances_init_15 : decode b_Chances_init 15 = .ok (.newarray .long, 2) := by decide +kernel
theorem d_Chances_init_17 : decode b_Chances_init 17 = .ok (.putfield 15, 3) := by decide +kernel
theorem d_Chances_init_20 : decode b_Chances_init 20 = .ok (.return_, 1) := by decide +kernel
theorem d_Deaths_init_0 : decode b_Deaths_init 0 = .ok (.aload_n 0, 1) := by decide +kernel
theorem d_Deaths_init_1 : decode b_Deaths_init 1 = .ok (.invokespecial 3, 3) := by decide +kernel
theorem d_Deaths_init_4 : decode b_Deaths_init 4 = .ok (.aload_n 0, 1) := by decide +kernel
theorem d_Deaths_init_5 : decode b_Deaths_init 5 = .ok (.bipush 60, 2) := by decide +kernel
theorem d_Deaths_init_7 : decode b_Deaths_init 7 = .ok (.newarray .int, 2) := by decide +kernel
theorem d_Deaths_init_9 : decode b_Deaths_init 9 = .ok (.putfield 9, 3) := by decide +kernel
theorem d_Deaths_init_12 : decode b_Deaths_init 12 = .ok (.aload_n 0, 1) := by decide +kernel
theorem d_Deaths_init_13 : decode b_Deaths_init 13 = .ok (.bipush 60, 2) := by decide +kernel
theorem d_Deaths_init_15 : decode b_Deaths_init 15 = .ok (.newarray .int, 2) := by decide +kernel
theorem d_Deaths_init_17 : decode b_Deaths_init 17 = .ok (.putfield 15, 3) := by decide +kernel
theorem d_Deaths_init_20 : decode b_Deaths_init 20 = .ok (.aload_n 0, 1) := by decide +kernel
theorem d_Deaths_init_21 : decode b_Deaths_init 21 = .ok (.bipush 60, 2) := by decide +kernel
theorem d_Deaths_init_23 : decode b_Deaths_init 23 = .ok (.newarray .int, 2) := by decide +kernel
theorem d_Deaths_init_25 : decode b_Deaths_init 25 = .ok (.putfield 18, 3) := by decide +kernel
theorem d_Deaths_init_28 : decode b_Deaths_init 28 = .ok (.aload_n 0, 1) := by decide +kernel
theorem d_Deaths_init_29 : decode b_Deaths_init 29 = .ok (.bipush 60, 2) := by decide +kernel
theorem d_Deaths_init_31 : decode b_Deaths_init 31 = .ok (.newarray .int, 2) := by decide +kernel
theorem d_Deaths_init_33 : decode b_Deaths_init 33 = .ok (.putfield 21, 3) := by decide +kernel
theorem d_Deaths_init_36 : decode b_Deaths_init 36 = .ok (.return_, 1) := by decide +kernel
theorem d_Falls_init_0 : decode b_Falls_init 0 = .ok (.aload_n 0, 1) := by decide +kernel
theorem d_Falls_init_1 : decode b_Falls_init 1 = .ok (.invokespecial 3, 3) := by decide +kernel
theorem d_Falls_init_4 : decode b_Falls_init 4 = .ok (.aload_n 0, 1) := by decide +kernel
theorem d_Falls_init_5 : decode b_Falls_init 5 = .ok (.bipush 12, 2) := by decide +kernel
theorem d_Falls_init_7 : decode b_Falls_init 7 = .ok (.newarray .int, 2) := by decide +kernel
theorem d_Falls_init_9 : decode b_Falls_init 9 = .ok (.putfield 9, 3) := by decide +kernel
theorem d_Falls_init_12 : decode b_Falls_init 12 = .ok (.aload_n 0, 1) := by decide +kernel
theorem d_Falls_init_13 : decode b_Falls_init 13 = .ok (.bipush 12, 2) := by decide +kernel
theorem d_Falls_init_15 : decode b_Falls_init 15 = .ok (.newarray .int, 2) := by decide +kernel
theorem d_Falls_init_17 : decode b_Falls_init 17 = .ok (.putfield 15, 3) := by decide +kernel
theorem d_Falls_init_20 : decode b_Falls_init 20 = .ok (.aload_n 0, 1) := by decide +kernel
theorem d_Falls_init_21 : decode b_Falls_init 21 = .ok (.iconst 4, 1) := by decide +kernel
theorem d_Falls_init_22 : decode b_Falls_init 22 = .ok (.newarray .int, 2) := by decide +kernel
theorem d_Falls_init_24 : decode b_Falls_init 24 = .ok (.putfield 18, 3) := by decide +kernel
theorem d_Falls_init_27 : decode b_Falls_init 27 = .ok (.aload_n 0, 1) := by decide +kernel
theorem d_Falls_init_28 : decode b_Falls_init 28 = .ok (.iconst 4, 1) := by decide +kernel
theorem d_Falls_init_29 : decode b_Falls_init 29 = .ok (.newarray .int, 2) := by decide +kernel
theorem d_Falls_init_31 : decode b_Falls_init 31 = .ok (.putfield 21, 3) := by decide +kernel
theorem d_Falls_init_34 : decode b_Falls_init 34 = .ok (.aload_n 0, 1) := by decide +kernel
theorem d_Falls_init_35 : decode b_Falls_init 35 = .ok (.aload_n 1, 1) := by decide +kernel
theorem d_Falls_init_36 : decode b_Falls_init 36 = .ok (.putfield 24, 3) := by decide +kernel
theorem d_Falls_init_39 : decode b_Falls_init 39 = .ok (.return_, 1) := by decide +kernel
theorem d_Land_init_0 : decode b_Land_init 0 = .ok (.aload_n 0, 1) := by decide +kernel
theorem d_Land_init_1 : decode b_Land_init 1 = .ok (.invokespecial 3, 3) := by decide +kernel
theorem d_Land_init_4 : decode b_Land_init 4 = .ok (.aload_n 0, 1) := by decide +kernel
theorem d_Land_init_5 : decode b_Land_init 5 = .ok (.new 9, 3) := by decide +kernel
theorem d_Land_init_8 : decode b_Land_init 8 = .ok (.dup, 1) := by decide +kernel
theorem d_Land_init_9 : decode b_Land_init 9 = .ok (.invokespecial 11, 3) := by decide +kernel
theorem d_Land_init_12 : decode b_Land_init 12 = .ok (.putfield 12, 3) := by decide +kernel
theorem d_Land_init_15 : decode b_Land_init 15 = .ok (.aload_n 0, 1) := by decide +kernel
theorem d_Land_init_16 : decode b_Land_init 16 = .ok (.new 18, 3) := by decide +kernel
theorem d_Land_init_19 : decode b_Land_init 19 = .ok (.dup, 1) := by decide +kernel
theorem d_Land_init_20 : decode b_Land_init 20 = .ok (.invokespecial 20, 3) := by decide +kernel
theorem d_Land_init_23 : decode b_Land_init 23 = .ok (.putfield 21, 3) := by decide +kernel
theorem d_Land_init_26 : decode b_Land_init 26 = .ok (.aload_n 0, 1) := by decide +kernel
theorem d_Land_init_27 : decode b_Land_init 27 = .ok (.new 25, 3) := by decide +kernel
theorem d_Land_init_30 : decode b_Land_init 30 = .ok (.dup, 1) := by decide +kernel
theorem d_Land_init_31 : decode b_Land_init 31 = .ok (.invokespecial 27, 3) := by decide +kernel
theorem d_Land_init_34 : decode b_Land_init 34 = .ok (.putfield 28, 3) := by decide +kernel
theorem d_Land_init_37 : decode b_Land_init 37 = .ok (.aload_n 0, 1) := by decide +kernel
theorem d_Land_init_38 : decode b_Land_init 38 = .ok (.new 32, 3) := by decide +kernel
theorem d_Land_init_41 : decode b_Land_init 41 = .ok (.dup, 1) := by decide +kernel
theorem d_Land_init_42 : decode b_Land_init 42 = .ok (.invokespecial 34, 3) := by decide +kernel
theorem d_Land_init_45 : decode b_Land_init 45 = .ok (.putfield 35, 3) := by decide +kernel
theorem d_Land_init_48 : decode b_Land_init 48 = .ok (.aload_n 0, 1) := by decide +kernel
theorem d_Land_init_49 : decode b_Land_init 49 = .ok (.bipush 9, 2) := by decide +kernel
theorem d_Land_init_51 : decode b_Land_init 51 = .ok (.newarray .int, 2) := by decide +kernel
theorem d_Land_init_53 : decode b_Land_init 53 = .ok (.putfield 39, 3) := by decide +kernel
theorem d_Land_init_56 : decode b_Land_init 56 = .ok (.return_, 1) := by decide +kernel
theorem d_Meanings_init_0 : decode b_Meanings_init 0 = .ok (.aload_n 0, 1) := by decide +kernel
theorem d_Meanings_init_1 : decode b_Meanings_init 1 = .ok (.invokespecial 3, 3) := by decide +kernel
theorem d_Meanings_init_4 : decode b_Meanings_init 4 = .ok (.aload_n 0, 1) := by decide +kernel
theorem d_Meanings_init_5 : decode b_Meanings_init 5 = .ok (.bipush 8, 2) := by decide +kernel
theorem d_Meanings_init_7 : decode b_Meanings_init 7 = .ok (.newarray .long, 2) := by decide +kernel
theorem d_Meanings_init_9 : decode b_Meanings_init 9 = .ok (.putfield 9, 3) := by decide +kernel
theorem d_Meanings_init_12 : decode b_Meanings_init 12 = .ok (.aload_n 0, 1) := by decide +kernel
theorem d_Meanings_init_13 : decode b_Meanings_init 13 = .ok (.bipush 10, 2) := by decide +kernel
theorem d_Meanings_init_15 : decode b_Meanings_init 15 = .ok (.newarray .int, 2) := by decide +kernel
theorem d_Meanings_init_17 : decode b_Meanings_init 17 = .ok (.putfield 15, 3) := by decide +kernel
theorem d_Meanings_init_20 : decode b_Meanings_init 20 = .ok (.aload_n 0, 1) := by decide +kernel
theorem d_Meanings_init_21 : decode b_Meanings_init 21 = .ok (.bipush 10, 2) := by decide +kernel
theorem d_Meanings_init_23 : decode b_Meanings_init 23 = .ok (.newarray .int, 2) := by decide +kernel
theorem d_Meanings_init_25 : decode b_Meanings_init 25 = .ok (.putfield 19, 3) := by decide +kernel
theorem d_Meanings_init_28 : decode b_Meanings_init 28 = .ok (.aload_n 0, 1) := by decide +kernel
theorem d_Meanings_init_29 : decode b_Meanings_init 29 = .ok (.bipush 10, 2) := by decide +kernel
theorem d_Meanings_init_31 : decode b_Meanings_init 31 = .ok (.newarray .int, 2) := by decide +kernel
theorem d_Meanings_init_33 : decode b_Meanings_init 33 = .ok (.putfield 22, 3) := by decide +kernel
theorem d_Meanings_init_36 : decode b_Meanings_init 36 = .ok (.return_, 1) := by decide +kernel
theorem d_Persons_init_0 : decode b_Persons_init 0 = .ok (.aload_n 0, 1) := by decide +kernel
theorem d_Persons_init_1 : decode b_Persons_init 1 = .ok (.invokespecial 3, 3) := by decide +kernel
theorem d_Persons_init_4 : decode b_Persons_init 4 = .ok (.aload_n 0, 1) := by decide +kernel
theorem d_Persons_init_5 : decode b_Persons_init 5 = .ok (.bipush 12, 2) := by decide +kernel
theorem d_Persons_init_7 : decode b_Persons_init 7 = .ok (.newarray .long, 2) := by decide +kernel
theorem d_Persons_init_9 : decode b_Persons_init 9 = .ok (.putfield 9, 3) := by decide +kernel
theorem d_Persons_init_12 : decode b_Persons_init 12 = .ok (.aload_n 0, 1) := by decide +kernel
theorem d_Persons_init_13 : decode b_Persons_init 13 = .ok (.bipush 12, 2) := by decide +kernel
theorem d_Persons_init_15 : decode b_Persons_init 15 = .ok (.newarray .long, 2) := by decide +kernel
theorem d_Persons_init_17 : decode b_Persons_init 17 = .ok (.putfield 15, 3) := by decide +kernel
theorem d_Persons_init_20 : decode b_Persons_init 20 = .ok (.aload_n 0, 1) := by decide +kernel
theorem d_Persons_init_21 : decode b_Persons_init 21 = .ok (.bipush 12, 2) := by decide +kernel
theorem d_Persons_init_23 : decode b_Persons_init 23 = .ok (.newarray .int, 2) := by decide +kernel
theorem d_Persons_init_25 : decode b_Persons_init 25 = .ok (.putfield 18, 3) := by decide +kernel
theorem d_Persons_init_28 : decode b_Persons_init 28 = .ok (.aload_n 0, 1) := by decide +kernel
theorem d_Persons_init_29 : decode b_Persons_init 29 = .ok (.bipush 12, 2) := by decide +kernel
theorem d_Persons_init_31 : decode b_Persons_init 31 = .ok (.newarray .int, 2) := by decide +kernel
theorem d_Persons_init_33 : decode b_Persons_init 33 = .ok (.putfield 22, 3) := by decide +kernel
theorem d_Persons_init_36 : decode b_Persons_init 36 = .ok (.aload_n 0, 1) := by decide +kernel
theorem d_Persons_init_37 : decode b_Persons_init 37 = .ok (.bipush 12, 2) := by decide +kernel
theorem d_Persons_init_39 : decode b_Persons_init 39 = .ok (.newarray .int, 2) := by decide +kernel
theorem d_Persons_init_41 : decode b_Persons_init 41 = .ok (.putfield 25, 3) := by decide +kernel
theorem d_Persons_init_44 : decode b_Persons_init 44 = .ok (.aload_n 0, 1) := by decide +kernel
theorem d_Persons_init_45 : decode b_Persons_init 45 = .ok (.bipush 12, 2) := by decide +kernel
theorem d_Persons_init_47 : decode b_Persons_init 47 = .ok (.newarray .int, 2) := by decide +kernel
theorem d_Persons_init_49 : decode b_Persons_init 49 = .ok (.putfield 28, 3) := by decide +kernel
theorem d_Persons_init_52 : decode b_Persons_init 52 = .ok (.aload_n 0, 1) := by decide +kernel
theorem d_Persons_init_53 : decode b_Persons_init 53 = .ok (.bipush 12, 2) := by decide +kernel
theorem d_Persons_init_55 : decode b_Persons_init 55 = .ok (.newarray .int, 2) := by decide +kernel
theorem d_Persons_init_57 : decode b_Persons_init 57 = .ok (.putfield 31, 3) := by decide +kernel
theorem d_Persons_init_60 : decode b_Persons_init 60 = .ok (.aload_n 0, 1) := by decide +kernel
theorem d_Persons_init_61 : decode b_Persons_init 61 = .ok (.bipush 48, 2) := by decide +kernel
theorem d_Persons_init_63 : decode b_Persons_init 63 = .ok (.newarray .int, 2) := by decide +kernel
theorem d_Persons_init_65 : decode b_Persons_init 65 = .ok (.putfield 34, 3) := by decide +kernel
theorem d_Persons_init_68 : decode b_Persons_init 68 = .ok (.aload_n 0, 1) := by decide +kernel
theorem d_Persons_init_69 : decode b_Persons_init 69 = .ok (.sipush 144, 3) := by decide +kernel
theorem d_Persons_init_72 : decode b_Persons_init 72 = .ok (.newarray .int, 2) := by decide +kernel
theorem d_Persons_init_74 : decode b_Persons_init 74 = .ok (.putfield 37, 3) := by decide +kernel
theorem d_Persons_init_77 : decode b_Persons_init 77 = .ok (.return_, 1) := by decide +kernel
theorem d_Places_init_0 : decode b_Places_init 0 = .ok (.aload_n 0, 1) := by decide +kernel
theorem d_Places_init_1 : decode b_Places_init 1 = .ok (.invokespecial 3, 3) := by decide +kernel
theorem d_Places_init_4 : decode b_Places_init 4 = .ok (.aload_n 0, 1) := by decide +kernel
theorem d_Places_init_5 : decode b_Places_init 5 = .ok (.iconst 4, 1) := by decide +kernel
theorem d_Places_init_6 : decode b_Places_init 6 = .ok (.newarray .long, 2) := by decide +kernel
theorem d_Places_init_8 : decode b_Places_init 8 = .ok (.putfield 9, 3) := by decide +kernel
theorem d_Places_init_11 : decode b_Places_init 11 = .ok (.aload_n 0, 1) := by decide +kernel
theorem d_Places_init_12 : decode b_Places_init 12 = .ok (.iconst 4, 1) := by decide +kernel
theorem d_Places_init_13 : decode b_Places_init 13 = .ok (.newarray .int, 2) := by decide +kernel
theorem d_Places_init_15 : decode b_Places_init 15 = .ok (.putfield 15, 3) := by decide +kernel
theorem d_Places_init_18 : decode b_Places_init 18 = .ok (.aload_n 0, 1) := by decide +kernel
theorem d_Places_init_19 : decode b_Places_init 19 = .ok (.iconst 4, 1) := by decide +kernel
theorem d_Places_init_20 : decode b_Places_init 20 = .ok (.newarray .int, 2) := by decide +kernel
theorem d_Places_init_22 : decode b_Places_init 22 = .ok (.putfield 19, 3) := by decide +kernel
theorem d_Places_init_25 : decode b_Places_init 25 = .ok (.aload_n 0, 1) := by decide +kernel
theorem d_Places_init_26 : decode b_Places_init 26 = .ok (.iconst 4, 1) := by decide +kernel
theorem d_Places_init_27 : decode b_Places_init 27 = .ok (.newarray .int, 2) := by decide +kernel
theorem d_Places_init_29 : decode b_Places_init 29 = .ok (.putfield 22, 3) := by decide +kernel
theorem d_Places_init_32 : decode b_Places_init 32 = .ok (.aload_n 0, 1) := by decide +kernel
theorem d_Places_init_33 : decode b_Places_init 33 = .ok (.iconst 4, 1) := by decide +kernel
theorem d_Places_init_34 : decode b_Places_init 34 = .ok (.newarray .int, 2) := by decide +kernel
theorem d_Places_init_36 : decode b_Places_init 36 = .ok (.putfield 25, 3) := by decide +kernel
theorem d_Places_init_39 : decode b_Places_init 39 = .ok (.aload_n 0, 1) := by decide +kernel
theorem d_Places_init_40 : decode b_Places_init 40 = .ok (.iconst 4, 1) := by decide +kernel
theorem d_Places_init_41 : decode b_Places_init 41 = .ok (.newarray .int, 2) := by decide +kernel
theorem d_Places_init_43 : decode b_Places_init 43 = .ok (.putfield 28, 3) := by decide +kernel
theorem d_Places_init_46 : decode b_Places_init 46 = .ok (.aload_n 0, 1) := by decide +kernel
theorem d_Places_init_47 : decode b_Places_init 47 = .ok (.bipush 32, 2) := by decide +kernel
theorem d_Places_init_49 : decode b_Places_init 49 = .ok (.newarray .int, 2) := by decide +kernel
theorem d_Places_init_51 : decode b_Places_init 51 = .ok (.putfield 31, 3) := by decide +kernel
theorem d_Places_init_54 : decode b_Places_init 54 = .ok (.return_, 1) := by decide +kernel
theorem d_Reader_init_0 : decode b_Reader_init 0 = .ok (.aload_n 0, 1) := by decide +kernel
theorem d_Reader_init_1 : decode b_Reader_init 1 = .ok (.invokespecial 3, 3) := by decide +kernel
theorem d_Reader_init_4 : decode b_Reader_init 4 = .ok (.aload_n 0, 1) := by decide +kernel
theorem d_Reader_init_5 : decode b_Reader_init 5 = .ok (.aload_n 1, 1) := by decide +kernel
theorem d_Reader_init_6 : decode b_Reader_init 6 = .ok (.putfield 9, 3) := by decide +kernel
theorem d_Reader_init_9 : decode b_Reader_init 9 = .ok (.aload_n 0, 1) := by decide +kernel
theorem d_Reader_init_10 : decode b_Reader_init 10 = .ok (.iconst (-1), 1) := by decide +kernel
theorem d_Reader_init_11 : decode b_Reader_init 11 = .ok (.putfield 15, 3) := by decide +kernel
theorem d_Reader_init_14 : decode b_Reader_init 14 = .ok (.return_, 1) := by decide +kernel
theorem d_Scanner_init_0 : decode b_Scanner_init 0 = .ok (.aload_n 0, 1) := by decide +kernel
theorem d_Scanner_init_1 : decode b_Scanner_init 1 = .ok (.invokespecial 3, 3) := by decide +kernel
theorem d_Scanner_init_4 : decode b_Scanner_init 4 = .ok (.aload_n 0, 1) := by decide +kernel
theorem d_Scanner_init_5 : decode b_Scanner_init 5 = .ok (.aload_n 1, 1) := by decide +kernel
theorem d_Scanner_init_6 : decode b_Scanner_init 6 = .ok (.putfield 9, 3) := by decide +kernel
theorem d_Scanner_init_9 : decode b_Scanner_init 9 = .ok (.aload_n 0, 1) := by decide +kernel
theorem d_Scanner_init_10 : decode b_Scanner_init 10 = .ok (.bipush 22, 2) := by decide +kernel
theorem d_Scanner_init_12 : decode b_Scanner_init 12 = .ok (.newarray .long, 2) := by decide +kernel
theorem d_Scanner_init_14 : decode b_Scanner_init 14 = .ok (.putfield 15, 3) := by decide +kernel
theorem d_Scanner_init_17 : decode b_Scanner_init 17 = .ok (.iconst 0, 1) := by decide +kernel
theorem d_Scanner_init_18 : decode b_Scanner_init 18 = .ok (.istore_n 2, 1) := by decide +kernel
theorem d_Scanner_init_19 : decode b_Scanner_init 19 = .ok (.iconst 0, 1) := by decide +kernel
theorem d_Scanner_init_20 : decode b_Scanner_init 20 = .ok (.istore_n 3, 1) := by decide +kernel
theorem d_Scanner_init_21 : decode b_Scanner_init 21 = .ok (.iconst 0, 1) := by decide +kernel
theorem d_Scanner_init_22 : decode b_Scanner_init 22 = .ok (.istore 4, 2) := by decide +kernel
theorem d_Scanner_init_24 : decode b_Scanner_init 24 = .ok (.iload 4, 2) := by decide +kernel
theorem d_Scanner_init_26 : decode b_Scanner_init 26 = .ok (.ldc 19, 2) := by decide +kernel
theorem d_Scanner_init_28 : decode b_Scanner_init 28 = .ok (.invokevirtual 21, 3) := by decide +kernel
theorem d_Scanner_init_31 : decode b_Scanner_init 31 = .ok (.if_icmp .ge 61, 3) := by decide +kernel
theorem d_Scanner_init_34 : decode b_Scanner_init 34 = .ok (.iload_n 2, 1) := by decide +kernel
theorem d_Scanner_init_35 : decode b_Scanner_init 35 = .ok (.bipush 22, 2) := by decide +kernel
theorem d_Scanner_init_37 : decode b_Scanner_init 37 = .ok (.if_icmp .ge 55, 3) := by decide +kernel
theorem d_Scanner_init_40 : decode b_Scanner_init 40 = .ok (.ldc 19, 2) := by decide +kernel
theorem d_Scanner_init_42 : decode b_Scanner_init 42 = .ok (.iload 4, 2) := by decide +kernel
theorem d_Scanner_init_44 : decode b_Scanner_init 44 = .ok (.invokevirtual 27, 3) := by decide +kernel
theorem d_Scanner_init_47 : decode b_Scanner_init 47 = .ok (.bipush 32, 2) := by decide +kernel
theorem d_Scanner_init_49 : decode b_Scanner_init 49 = .ok (.if_icmp .ne 14, 3) := by decide +kernel
theorem d_Scanner_init_52 : decode b_Scanner_init 52 = .ok (.iinc 2 1, 3) := by decide +kernel
theorem d_Scanner_init_55 : decode b_Scanner_init 55 = .ok (.iload 4, 2) := by decide +kernel
theorem d_Scanner_init_57 : decode b_Scanner_init 57 = .ok (.iconst 1, 1) := by decide +kernel
theorem d_Scanner_init_58 : decode b_Scanner_init 58 = .ok (.iadd, 1) := by decide +kernel
theorem d_Scanner_init_59 : decode b_Scanner_init 59 = .ok (.istore_n 3, 1) := by decide +kernel
theorem d_Scanner_init_60 : decode b_Scanner_init 60 = .ok (.goto 26, 3) := by decide +kernel
theorem d_Scanner_init_63 : decode b_Scanner_init 63 = .ok (.aload_n 0, 1) := by decide +kernel
theorem d_Scanner_init_64 : decode b_Scanner_init 64 = .ok (.getfield 15, 3) := by decide +kernel
theorem d_Scanner_init_67 : decode b_Scanner_init 67 = .ok (.iload_n 2, 1) := by decide +kernel
theorem d_Scanner_init_68 : decode b_Scanner_init 68 = .ok (.dup2, 1) := by decide +kernel
theorem d_Scanner_init_69 : decode b_Scanner_init 69 = .ok (.laload, 1) := by decide +kernel
theorem d_Scanner_init_70 : decode b_Scanner_init 70 = .ok (.ldc 19, 2) := by decide +kernel
theorem d_Scanner_init_72 : decode b_Scanner_init 72 = .ok (.iload 4, 2) := by decide +kernel
theorem d_Scanner_init_74 : decode b_Scanner_init 74 = .ok (.invokevirtual 27, 3) := by decide +kernel
theorem d_Scanner_init_77 : decode b_Scanner_init 77 = .ok (.iload 4, 2) := by decide +kernel
theorem d_Scanner_init_79 : decode b_Scanner_init 79 = .ok (.iload_n 3, 1) := by decide +kernel
theorem d_Scanner_init_80 : decode b_Scanner_init 80 = .ok (.isub, 1) := by decide +kernel
theorem d_Scanner_init_81 : decode b_Scanner_init 81 = .ok (.invokestatic 31, 3) := by decide +kernel
theorem d_Scanner_init_84 : decode b_Scanner_init 84 = .ok (.lor, 1) := by decide +kernel
theorem d_Scanner_init_85 : decode b_Scanner_init 85 = .ok (.lastore, 1) := by decide +kernel
theorem d_Scanner_init_86 : decode b_Scanner_init 86 = .ok (.iinc 4 1, 3) := by decide +kernel
theorem d_Scanner_init_89 : decode b_Scanner_init 89 = .ok (.goto (-65), 3) := by decide +kernel
theorem d_Scanner_init_92 : decode b_Scanner_init 92 = .ok (.return_, 1) := by decide +kernel
theorem d_Scanner_letterCode_0 : decode b_Scanner_letterCode 0 = .ok (.iload_n 0, 1) := by decide +kernel
