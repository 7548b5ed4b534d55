theorem d_Land_init_48 : decode b_Land_init 48 = .ok (.aload_n 0, 1) := by decide +kernel
theorem d_Land_init_49 : decode b_Land_init 49 = .ok (.bipush 9, 2) := by decide +kernel
theorem d_Land_init_51 : decode b_Land_init 51 = .ok (.newarray .int, 2) := by decide +kernel
theorem d_Land_init_53 : decode b_Land_init 53 = .ok (.putfield 39, 3) := by decide +kernel
theorem d_Land_init_56 : decode b_Land_init 56 = .ok (.return_, 1) := by decide +kernel
theorem d_Land_clear_0 : decode b_Land_clear 0 = .ok (.aload_n 0, 1) := by decide +kernel
theorem d_Land_clear_1 : decode b_Land_clear 1 = .ok (.getfield 12, 3) := by decide +kernel
theorem d_Land_clear_4 : decode b_Land_clear 4 = .ok (.invokevirtual 43, 3) := by decide +kernel
theorem d_Land_clear_7 : decode b_Land_clear 7 = .ok (.aload_n 0, 1) := by decide +kernel
theorem d_Land_clear_8 : decode b_Land_clear 8 = .ok (.getfield 21, 3) := by decide +kernel
theorem d_Land_clear_11 : decode b_Land_clear 11 = .ok (.invokevirtual 46, 3) := by decide +kernel
theorem d_Land_clear_14 : decode b_Land_clear 14 = .ok (.aload_n 0, 1) := by decide +kernel
theorem d_Land_clear_15 : decode b_Land_clear 15 = .ok (.getfield 28, 3) := by decide +kernel
theorem d_Land_clear_18 : decode b_Land_clear 18 = .ok (.invokevirtual 47, 3) := by decide +kernel
theorem d_Land_clear_21 : decode b_Land_clear 21 = .ok (.aload_n 0, 1) := by decide +kernel
theorem d_Land_clear_22 : decode b_Land_clear 22 = .ok (.getfield 35, 3) := by decide +kernel
theorem d_Land_clear_25 : decode b_Land_clear 25 = .ok (.invokevirtual 48, 3) := by decide +kernel
theorem d_Land_clear_28 : decode b_Land_clear 28 = .ok (.return_, 1) := by decide +kernel
theorem d_Land_settle_0 : decode b_Land_settle 0 = .ok (.aload_n 0, 1) := by decide +kernel
theorem d_Land_settle_1 : decode b_Land_settle 1 = .ok (.getfield 35, 3) := by decide +kernel
theorem d_Land_settle_4 : decode b_Land_settle 4 = .ok (.invokevirtual 49, 3) := by decide +kernel
theorem d_Land_settle_7 : decode b_Land_settle 7 = .ok (.aload_n 0, 1) := by decide +kernel
theorem d_Land_settle_8 : decode b_Land_settle 8 = .ok (.getfield 35, 3) := by decide +kernel
theorem d_Land_settle_11 : decode b_Land_settle 11 = .ok (.invokevirtual 52, 3) := by decide +kernel
theorem d_Land_settle_14 : decode b_Land_settle 14 = .ok (.iconst 0, 1) := by decide +kernel
theorem d_Land_settle_15 : decode b_Land_settle 15 = .ok (.istore_n 1, 1) := by decide +kernel
theorem d_Land_settle_16 : decode b_Land_settle 16 = .ok (.iload_n 1, 1) := by decide +kernel
theorem d_Land_settle_17 : decode b_Land_settle 17 = .ok (.aload_n 0, 1) := by decide +kernel
theorem d_Land_settle_18 : decode b_Land_settle 18 = .ok (.getfield 35, 3) := by decide +kernel
theorem d_Land_settle_21 : decode b_Land_settle 21 = .ok (.getfield 55, 3) := by decide +kernel
theorem d_Land_settle_24 : decode b_Land_settle 24 = .ok (.if_icmp .ge 30, 3) := by decide +kernel
theorem d_Land_settle_54 : decode b_Land_settle 54 = .ok (.iconst 0, 1) := by decide +kernel
theorem d_Land_settle_55 : decode b_Land_settle 55 = .ok (.istore_n 1, 1) := by decide +kernel
theorem d_Land_settle_56 : decode b_Land_settle 56 = .ok (.iload_n 1, 1) := by decide +kernel
theorem d_Land_settle_57 : decode b_Land_settle 57 = .ok (.aload_n 0, 1) := by decide +kernel
theorem d_Land_settle_58 : decode b_Land_settle 58 = .ok (.getfield 28, 3) := by decide +kernel
theorem d_Land_settle_61 : decode b_Land_settle 61 = .ok (.getfield 70, 3) := by decide +kernel
theorem d_Land_settle_64 : decode b_Land_settle 64 = .ok (.if_icmp .ge 30, 3) := by decide +kernel
theorem d_Land_settle_94 : decode b_Land_settle 94 = .ok (.return_, 1) := by decide +kernel
theorem d_Meanings_init_0 : decode b_Meanings_init 0 = .ok (.aload_n 0, 1) := by decide +kernel
theorem d_Meanings_init_1 : decode b_Meanings_init 1 = .ok (.invokespecial 3, 3) := by decide +kernel
theorem d_Meanings_init_4 : decode b_Meanings_init 4 = .ok (.aload_n 0, 1) := by decide +kernel
theorem d_Meanings_init_5 : decode b_Meanings_init 5 = .ok (.bipush 8, 2) := by decide +kernel
theorem d_Meanings_init_7 : decode b_Meanings_init 7 = .ok (.newarray .long, 2) := by decide +kernel
theorem d_Meanings_init_9 : decode b_Meanings_init 9 = .ok (.putfield 9, 3) := by decide +kernel
theorem d_Meanings_init_12 : decode b_Meanings_init 12 = .ok (.aload_n 0, 1) := by decide +kernel
theorem d_Meanings_init_13 : decode b_Meanings_init 13 = .ok (.bipush 10, 2) := by decide +kernel
theorem d_Meanings_init_15 : decode b_Meanings_init 15 = .ok (.newarray .int, 2) := by decide +kernel
theorem d_Meanings_init_17 : decode b_Meanings_init 17 = .ok (.putfield 15, 3) := by decide +kernel
theorem d_Meanings_init_20 : decode b_Meanings_init 20 = .ok (.aload_n 0, 1) := by decide +kernel
theorem d_Meanings_init_21 : decode b_Meanings_init 21 = .ok (.bipush 10, 2) := by decide +kernel
theorem d_Meanings_init_23 : decode b_Meanings_init 23 = .ok (.newarray .int, 2) := by decide +kernel
theorem d_Meanings_init_25 : decode b_Meanings_init 25 = .ok (.putfield 19, 3) := by decide +kernel
theorem d_Meanings_init_28 : decode b_Meanings_init 28 = .ok (.aload_n 0, 1) := by decide +kernel
theorem d_Meanings_init_29 : decode b_Meanings_init 29 = .ok (.bipush 10, 2) := by decide +kernel
theorem d_Meanings_init_31 : decode b_Meanings_init 31 = .ok (.newarray .int, 2) := by decide +kernel
theorem d_Meanings_init_33 : decode b_Meanings_init 33 = .ok (.putfield 22, 3) := by decide +kernel
theorem d_Meanings_init_36 : decode b_Meanings_init 36 = .ok (.return_, 1) := by decide +kernel
theorem d_Meanings_clear_0 : decode b_Meanings_clear 0 = .ok (.aload_n 0, 1) := by decide +kernel
theorem d_Meanings_clear_1 : decode b_Meanings_clear 1 = .ok (.iconst 0, 1) := by decide +kernel
theorem d_Meanings_clear_2 : decode b_Meanings_clear 2 = .ok (.putfield 25, 3) := by decide +kernel
theorem d_Meanings_clear_5 : decode b_Meanings_clear 5 = .ok (.aload_n 0, 1) := by decide +kernel
theorem d_Meanings_clear_6 : decode b_Meanings_clear 6 = .ok (.iconst 0, 1) := by decide +kernel
theorem d_Meanings_clear_7 : decode b_Meanings_clear 7 = .ok (.putfield 29, 3) := by decide +kernel
theorem d_Meanings_clear_10 : decode b_Meanings_clear 10 = .ok (.return_, 1) := by decide +kernel
theorem d_Persons_init_0 : decode b_Persons_init 0 = .ok (.aload_n 0, 1) := by decide +kernel
theorem d_Persons_init_1 : decode b_Persons_init 1 = .ok (.invokespecial 3, 3) := by decide +kernel
theorem d_Persons_init_4 : decode b_Persons_init 4 = .ok (.aload_n 0, 1) := by decide +kernel
theorem d_Persons_init_5 : decode b_Persons_init 5 = .ok (.bipush 12, 2) := by decide +kernel
theorem d_Persons_init_7 : decode b_Persons_init 7 = .ok (.newarray .long, 2) := by decide +kernel
theorem d_Persons_init_9 : decode b_Persons_init 9 = .ok (.putfield 9, 3) := by decide +kernel
theorem d_Persons_init_12 : decode b_Persons_init 12 = .ok (.aload_n 0, 1) := by decide +kernel
theorem d_Persons_init_13 : decode b_Persons_init 13 = .ok (.bipush 12, 2) := by decide +kernel
theorem d_Persons_init_15 : decode b_Persons_init 15 = .ok (.newarray .long, 2) := by decide +kernel
theorem d_Persons_init_17 : decode b_Persons_init 17 = .ok (.putfield 15, 3) := by decide +kernel
theorem d_Persons_init_20 : decode b_Persons_init 20 = .ok (.aload_n 0, 1) := by decide +kernel
theorem d_Persons_init_21 : decode b_Persons_init 21 = .ok (.bipush 12, 2) := by decide +kernel
theorem d_Persons_init_23 : decode b_Persons_init 23 = .ok (.newarray .int, 2) := by decide +kernel
theorem d_Persons_init_25 : decode b_Persons_init 25 = .ok (.putfield 18, 3) := by decide +kernel
theorem d_Persons_init_28 : decode b_Persons_init 28 = .ok (.aload_n 0, 1) := by decide +kernel
theorem d_Persons_init_29 : decode b_Persons_init 29 = .ok (.bipush 12, 2) := by decide +kernel
theorem d_Persons_init_31 : decode b_Persons_init 31 = .ok (.newarray .int, 2) := by decide +kernel
theorem d_Persons_init_33 : decode b_Persons_init 33 = .ok (.putfield 22, 3) := by decide +kernel
theorem d_Persons_init_36 : decode b_Persons_init 36 = .ok (.aload_n 0, 1) := by decide +kernel
theorem d_Persons_init_37 : decode b_Persons_init 37 = .ok (.bipush 12, 2) := by decide +kernel
theorem d_Persons_init_39 : decode b_Persons_init 39 = .ok (.newarray .int, 2) := by decide +kernel
theorem d_Persons_init_41 : decode b_Persons_init 41 = .ok (.putfield 25, 3) := by decide +kernel
theorem d_Persons_init_44 : decode b_Persons_init 44 = .ok (.aload_n 0, 1) := by decide +kernel
theorem d_Persons_init_45 : decode b_Persons_init 45 = .ok (.bipush 12, 2) := by decide +kernel
theorem d_Persons_init_47 : decode b_Persons_init 47 = .ok (.newarray .int, 2) := by decide +kernel
theorem d_Persons_init_49 : decode b_Persons_init 49 = .ok (.putfield 28, 3) := by decide +kernel
theorem d_Persons_init_52 : decode b_Persons_init 52 = .ok (.aload_n 0, 1) := by decide +kernel
theorem d_Persons_init_53 : decode b_Persons_init 53 = .ok (.bipush 12, 2) := by decide +kernel
theorem d_Persons_init_55 : decode b_Persons_init 55 = .ok (.newarray .int, 2) := by decide +kernel
theorem d_Persons_init_57 : decode b_Persons_init 57 = .ok (.putfield 31, 3) := by decide +kernel
theorem d_Persons_init_60 : decode b_Persons_init 60 = .ok (.aload_n 0, 1) := by decide +kernel
theorem d_Persons_init_61 : decode b_Persons_init 61 = .ok (.bipush 48, 2) := by decide +kernel
theorem d_Persons_init_63 : decode b_Persons_init 63 = .ok (.newarray .int, 2) := by decide +kernel
theorem d_Persons_init_65 : decode b_Persons_init 65 = .ok (.putfield 34, 3) := by decide +kernel
theorem d_Persons_init_68 : decode b_Persons_init 68 = .ok (.aload_n 0, 1) := by decide +kernel
theorem d_Persons_init_69 : decode b_Persons_init 69 = .ok (.sipush 144, 3) := by decide +kernel
theorem d_Persons_init_72 : decode b_Persons_init 72 = .ok (.newarray .int, 2) := by decide +kernel
theorem d_Persons_init_74 : decode b_Persons_init 74 = .ok (.putfield 37, 3) := by decide +kernel
theorem d_Persons_init_77 : decode b_Persons_init 77 = .ok (.return_, 1) := by decide +kernel
theorem d_Persons_clear_0 : decode b_Persons_clear 0 = .ok (.aload_n 0, 1) := by decide +kernel
theorem d_Persons_clear_1 : decode b_Persons_clear 1 = .ok (.iconst 0, 1) := by decide +kernel
theorem d_Persons_clear_2 : decode b_Persons_clear 2 = .ok (.putfield 40, 3) := by decide +kernel
theorem d_Persons_clear_5 : decode b_Persons_clear 5 = .ok (.aload_n 0, 1) := by decide +kernel
theorem d_Persons_clear_6 : decode b_Persons_clear 6 = .ok (.iconst 0, 1) := by decide +kernel
theorem d_Persons_clear_7 : decode b_Persons_clear 7 = .ok (.putfield 44, 3) := by decide +kernel
theorem d_Persons_clear_10 : decode b_Persons_clear 10 = .ok (.iconst 0, 1) := by decide +kernel
theorem d_Persons_clear_11 : decode b_Persons_clear 11 = .ok (.istore_n 1, 1) := by decide +kernel
theorem d_Persons_clear_12 : decode b_Persons_clear 12 = .ok (.iload_n 1, 1) := by decide +kernel
theorem d_Persons_clear_13 : decode b_Persons_clear 13 = .ok (.bipush 12, 2) := by decide +kernel
theorem d_Persons_clear_15 : decode b_Persons_clear 15 = .ok (.if_icmp .ge 16, 3) := by decide +kernel
theorem d_Persons_clear_18 : decode b_Persons_clear 18 = .ok (.aload_n 0, 1) := by decide +kernel
theorem d_Persons_clear_19 : decode b_Persons_clear 19 = .ok (.getfield 31, 3) := by decide +kernel
theorem d_Persons_clear_22 : decode b_Persons_clear 22 = .ok (.iload_n 1, 1) := by decide +kernel
theorem d_Persons_clear_23 : decode b_Persons_clear 23 = .ok (.iconst 0, 1) := by decide +kernel
theorem d_Persons_clear_24 : decode b_Persons_clear 24 = .ok (.iastore, 1) := by decide +kernel
theorem d_Persons_clear_25 : decode b_Persons_clear 25 = .ok (.iinc 1 1, 3) := by decide +kernel
theorem d_Persons_clear_28 : decode b_Persons_clear 28 = .ok (.goto (-16), 3) := by decide +kernel
theorem d_Persons_clear_31 : decode b_Persons_clear 31 = .ok (.return_, 1) := by decide +kernel
theorem d_Persons_findForebears_0 : decode b_Persons_findForebears 0 = .ok (.iconst 0, 1) := by decide +kernel
theorem d_Persons_findForebears_1 : decode b_Persons_findForebears 1 = .ok (.istore_n 1, 1) := by decide +kernel
theorem d_Persons_findForebears_2 : decode b_Persons_findForebears 2 = .ok (.iload_n 1, 1) := by decide +kernel
theorem d_Persons_findForebears_3 : decode b_Persons_findForebears 3 = .ok (.aload_n 0, 1) := by decide +kernel
theorem d_Persons_findForebears_4 : decode b_Persons_findForebears 4 = .ok (.getfield 40, 3) := by decide +kernel
theorem d_Persons_findForebears_7 : decode b_Persons_findForebears 7 = .ok (.if_icmp .ge 58, 3) := by decide +kernel
theorem d_Persons_findForebears_65 : decode b_Persons_findForebears 65 = .ok (.return_, 1) := by decide +kernel
theorem d_Persons_findSteps_0 : decode b_Persons_findSteps 0 = .ok (.iconst 0, 1) := by decide +kernel
theorem d_Persons_findSteps_1 : decode b_Persons_findSteps 1 = .ok (.istore_n 1, 1) := by decide +kernel
theorem d_Persons_findSteps_2 : decode b_Persons_findSteps 2 = .ok (.iload_n 1, 1) := by decide +kernel
theorem d_Persons_findSteps_3 : decode b_Persons_findSteps 3 = .ok (.aload_n 0, 1) := by decide +kernel
theorem d_Persons_findSteps_4 : decode b_Persons_findSteps 4 = .ok (.getfield 40, 3) := by decide +kernel
theorem d_Persons_findSteps_7 : decode b_Persons_findSteps 7 = .ok (.if_icmp .ge 87, 3) := by decide +kernel
theorem d_Persons_findSteps_94 : decode b_Persons_findSteps 94 = .ok (.iconst 0, 1) := by decide +kernel
theorem d_Persons_findSteps_95 : decode b_Persons_findSteps 95 = .ok (.istore_n 1, 1) := by decide +kernel
theorem d_Persons_findSteps_96 : decode b_Persons_findSteps 96 = .ok (.iload_n 1, 1) := by decide +kernel
theorem d_Persons_findSteps_97 : decode b_Persons_findSteps 97 = .ok (.aload_n 0, 1) := by decide +kernel
theorem d_Persons_findSteps_98 : decode b_Persons_findSteps 98 = .ok (.getfield 40, 3) := by decide +kernel
theorem d_Persons_findSteps_101 : decode b_Persons_findSteps 101 = .ok (.if_icmp .ge 80, 3) := by decide +kernel
theorem d_Persons_findSteps_181 : decode b_Persons_findSteps 181 = .ok (.return_, 1) := by decide +kernel
theorem d_Places_init_0 : decode b_Places_init 0 = .ok (.aload_n 0, 1) := by decide +kernel
theorem d_Places_init_1 : decode b_Places_init 1 = .ok (.invokespecial 3, 3) := by decide +kernel
theorem d_Places_init_4 : decode b_Places_init 4 = .ok (.aload_n 0, 1) := by decide +kernel
theorem d_Places_init_5 : decode b_Places_init 5 = .ok (.iconst 4, 1) := by decide +kernel
theorem d_Places_init_6 : decode b_Places_init 6 = .ok (.newarray .long, 2) := by decide +kernel
theorem d_Places_init_8 : decode b_Places_init 8 = .ok (.putfield 9, 3) := by decide +kernel
theorem d_Places_init_11 : decode b_Places_init 11 = .ok (.aload_n 0, 1) := by decide +kernel
theorem d_Places_init_12 : decode b_Places_init 12 = .ok (.iconst 4, 1) := by decide +kernel
theorem d_Places_init_13 : decode b_Places_init 13 = .ok (.newarray .int, 2) := by decide +kernel
theorem d_Places_init_15 : decode b_Places_init 15 = .ok (.putfield 15, 3) := by decide +kernel
theorem d_Places_init_18 : decode b_Places_init 18 = .ok (.aload_n 0, 1) := by decide +kernel
theorem d_Places_init_19 : decode b_Places_init 19 = .ok (.iconst 4, 1) := by decide +kernel
theorem d_Places_init_20 : decode b_Places_init 20 = .ok (.newarray .int, 2) := by decide +kernel
theorem d_Places_init_22 : decode b_Places_init 22 = .ok (.putfield 19, 3) := by decide +kernel
theorem d_Places_init_25 : decode b_Places_init 25 = .ok (.aload_n 0, 1) := by decide +kernel
theorem d_Places_init_26 : decode b_Places_init 26 = .ok (.iconst 4, 1) := by decide +kernel
theorem d_Places_init_27 : decode b_Places_init 27 = .ok (.newarray .int, 2) := by decide +kernel
theorem d_Places_init_29 : decode b_Places_init 29 = .ok (.putfield 22, 3) := by decide +kernel
theorem d_Places_init_32 : decode b_Places_init 32 = .ok (.aload_n 0, 1) := by decide +kernel
theorem d_Places_init_33 : decode b_Places_init 33 = .ok (.iconst 4, 1) := by decide +kernel
theorem d_Places_init_34 : decode b_Places_init 34 = .ok (.newarray .int, 2) := by decide +kernel
theorem d_Places_init_36 : decode b_Places_init 36 = .ok (.putfield 25, 3) := by decide +kernel
theorem d_Places_init_39 : decode b_Places_init 39 = .ok (.aload_n 0, 1) := by decide +kernel
theorem d_Places_init_40 : decode b_Places_init 40 = .ok (.iconst 4, 1) := by decide +kernel
theorem d_Places_init_41 : decode b_Places_init 41 = .ok (.newarray .int, 2) := by decide +kernel
theorem d_Places_init_43 : decode b_Places_init 43 = .ok (.putfield 28, 3) := by decide +kernel
theorem d_Places_init_46 : decode b_Places_init 46 = .ok (.aload_n 0, 1) := by decide +kernel
theorem d_Places_init_47 : decode b_Places_init 47 = .ok (.bipush 32, 2) := by decide +kernel
theorem d_Places_init_49 : decode b_Places_init 49 = .ok (.newarray .int, 2) := by decide +kernel
theorem d_Places_init_51 : decode b_Places_init 51 = .ok (.putfield 31, 3) := by decide +kernel
theorem d_Places_init_54 : decode b_Places_init 54 = .ok (.return_, 1) := by decide +kernel
theorem d_Places_clear_0 : decode b_Places_clear 0 = .ok (.aload_n 0, 1) := by decide +kernel
theorem d_Places_clear_1 : decode b_Places_clear 1 = .ok (.iconst 0, 1) := by decide +kernel
theorem d_Places_clear_2 : decode b_Places_clear 2 = .ok (.putfield 34, 3) := by decide +kernel
theorem d_Places_clear_5 : decode b_Places_clear 5 = .ok (.iconst 0, 1) := by decide +kernel
theorem d_Places_clear_6 : decode b_Places_clear 6 = .ok (.istore_n 1, 1) := by decide +kernel
theorem d_Places_clear_7 : decode b_Places_clear 7 = .ok (.iload_n 1, 1) := by decide +kernel
theorem d_Places_clear_8 : decode b_Places_clear 8 = .ok (.aload_n 0, 1) := by decide +kernel
theorem d_Places_clear_9 : decode b_Places_clear 9 = .ok (.getfield 31, 3) := by decide +kernel
theorem d_Places_clear_12 : decode b_Places_clear 12 = .ok (.arraylength, 1) := by decide +kernel
theorem d_Places_clear_13 : decode b_Places_clear 13 = .ok (.if_icmp .ge 16, 3) := by decide +kernel
theorem d_Places_clear_16 : decode b_Places_clear 16 = .ok (.aload_n 0, 1) := by decide +kernel
theorem d_Places_clear_17 : decode b_Places_clear 17 = .ok (.getfield 31, 3) := by decide +kernel
theorem d_Places_clear_20 : decode b_Places_clear 20 = .ok (.iload_n 1, 1) := by decide +kernel
theorem d_Places_clear_21 : decode b_Places_clear 21 = .ok (.iconst 0, 1) := by decide +kernel
theorem d_Places_clear_22 : decode b_Places_clear 22 = .ok (.iastore, 1) := by decide +kernel
theorem d_Places_clear_23 : decode b_Places_clear 23 = .ok (.iinc 1 1, 3) := by decide +kernel
theorem d_Places_clear_26 : decode b_Places_clear 26 = .ok (.goto (-19), 3) := by decide +kernel
theorem d_Places_clear_29 : decode b_Places_clear 29 = .ok (.return_, 1) := by decide +kernel
theorem d_Reader_init_0 : decode b_Reader_init 0 = .ok (.aload_n 0, 1) := by decide +kernel
theorem d_Reader_init_1 : decode b_Reader_init 1 = .ok (.invokespecial 3, 3) := by decide +kernel
theorem d_Reader_init_4 : decode b_Reader_init 4 = .ok (.aload_n 0, 1) := by decide +kernel
theorem d_Reader_init_5 : decode b_Reader_init 5 = .ok (.aload_n 1, 1) := by decide +kernel
theorem d_Reader_init_6 : decode b_Reader_init 6 = .ok (.putfield 9, 3) := by decide +kernel
theorem d_Reader_init_9 : decode b_Reader_init 9 = .ok (.aload_n 0, 1) := by decide +kernel
theorem d_Reader_init_10 : decode b_Reader_init 10 = .ok (.iconst (-1), 1) := by decide +kernel
theorem d_Reader_init_11 : decode b_Reader_init 11 = .ok (.putfield 15, 3) := by decide +kernel
theorem d_Reader_init_14 : decode b_Reader_init 14 = .ok (.return_, 1) := by decide +kernel
theorem d_Reader_begin_0 : decode b_Reader_begin 0 = .ok (.aload_n 0, 1) := by decide +kernel
theorem d_Reader_begin_1 : decode b_Reader_begin 1 = .ok (.iconst 0, 1) := by decide +kernel
theorem d_Reader_begin_2 : decode b_Reader_begin 2 = .ok (.putfield 19, 3) := by decide +kernel
theorem d_Reader_begin_5 : decode b_Reader_begin 5 = .ok (.aload_n 0, 1) := by decide +kernel
theorem d_Reader_begin_6 : decode b_Reader_begin 6 = .ok (.iconst (-1), 1) := by decide +kernel
theorem d_Reader_begin_7 : decode b_Reader_begin 7 = .ok (.putfield 15, 3) := by decide +kernel
theorem d_Reader_begin_10 : decode b_Reader_begin 10 = .ok (.aload_n 1, 1) := by decide +kernel
theorem d_Reader_begin_11 : decode b_Reader_begin 11 = .ok (.invokevirtual 22, 3) := by decide +kernel
theorem d_Reader_begin_14 : decode b_Reader_begin 14 = .ok (.aload_n 0, 1) := by decide +kernel
theorem d_Reader_begin_15 : decode b_Reader_begin 15 = .ok (.getfield 9, 3) := by decide +kernel
theorem d_Reader_begin_18 : decode b_Reader_begin 18 = .ok (.iload_n 2, 1) := by decide +kernel
theorem d_Reader_begin_19 : decode b_Reader_begin 19 = .ok (.invokevirtual 27, 3) := by decide +kernel
theorem d_Reader_begin_22 : decode b_Reader_begin 22 = .ok (.return_, 1) := by decide +kernel
theorem d_Reader_readLine_0 : decode b_Reader_readLine 0 = .ok (.aload_n 0, 1) := by decide +kernel
theorem d_Reader_readLine_1 : decode b_Reader_readLine 1 = .ok (.getfield 9, 3) := by decide +kernel
theorem d_Reader_readLine_4 : decode b_Reader_readLine 4 = .ok (.getfield 33, 3) := by decide +kernel
theorem d_Reader_readLine_7 : decode b_Reader_readLine 7 = .ok (.iconst 5, 1) := by decide +kernel
theorem d_Reader_readLine_8 : decode b_Reader_readLine 8 = .ok (.if_icmp .ne 5, 3) := by decide +kernel
theorem d_Reader_readLine_11 : decode b_Reader_readLine 11 = .ok (.iconst 0, 1) := by decide +kernel
theorem d_Reader_readLine_12 : decode b_Reader_readLine 12 = .ok (.ireturn, 1) := by decide +kernel
theorem d_Scanner_init_0 : decode b_Scanner_init 0 = .ok (.aload_n 0, 1) := by decide +kernel
theorem d_Scanner_init_1 : decode b_Scanner_init 1 = .ok (.invokespecial 3, 3) := by decide +kernel
theorem d_Scanner_init_4 : decode b_Scanner_init 4 = .ok (.aload_n 0, 1) := by decide +kernel
theorem d_Scanner_init_5 : decode b_Scanner_init 5 = .ok (.aload_n 1, 1) := by decide +kernel
theorem d_Scanner_init_6 : decode b_Scanner_init 6 = .ok (.putfield 9, 3) := by decide +kernel
theorem d_Scanner_init_9 : decode b_Scanner_init 9 = .ok (.aload_n 0, 1) := by decide +kernel
theorem d_Scanner_init_10 : decode b_Scanner_init 10 = .ok (.bipush 22, 2) := by decide +kernel
theorem d_Scanner_init_12 : decode b_Scanner_init 12 = .ok (.newarray .long, 2) := by decide +kernel
theorem d_Scanner_init_14 : decode b_Scanner_init 14 = .ok (.putfield 15, 3) := by decide +kernel
theorem d_Scanner_init_17 : decode b_Scanner_init 17 = .ok (.iconst 0, 1) := by decide +kernel
theorem d_Scanner_init_18 : decode b_Scanner_init 18 = .ok (.istore_n 2, 1) := by decide +kernel
theorem d_Scanner_init_19 : decode b_Scanner_init 19 = .ok (.iconst 0, 1) := by decide +kernel
theorem d_Scanner_init_20 : decode b_Scanner_init 20 = .ok (.istore_n 3, 1) := by decide +kernel
theorem d_Scanner_init_21 : decode b_Scanner_init 21 = .ok (.iconst 0, 1) := by decide +kernel
theorem d_Scanner_init_22 : decode b_Scanner_init 22 = .ok (.istore 4, 2) := by decide +kernel
theorem d_Scanner_init_24 : decode b_Scanner_init 24 = .ok (.iload 4, 2) := by decide +kernel
theorem d_Scanner_init_26 : decode b_Scanner_init 26 = .ok (.ldc 19, 2) := by decide +kernel
theorem d_Scanner_init_28 : decode b_Scanner_init 28 = .ok (.invokevirtual 21, 3) := by decide +kernel
theorem d_Scanner_init_31 : decode b_Scanner_init 31 = .ok (.if_icmp .ge 61, 3) := by decide +kernel
theorem d_Scanner_init_34 : decode b_Scanner_init 34 = .ok (.iload_n 2, 1) := by decide +kernel
theorem d_Scanner_init_35 : decode b_Scanner_init 35 = .ok (.bipush 22, 2) := by decide +kernel
theorem d_Scanner_init_37 : decode b_Scanner_init 37 = .ok (.if_icmp .ge 55, 3) := by decide +kernel
theorem d_Scanner_init_40 : decode b_Scanner_init 40 = .ok (.ldc 19, 2) := by decide +kernel
theorem d_Scanner_init_42 : decode b_Scanner_init 42 = .ok (.iload 4, 2) := by decide +kernel
theorem d_Scanner_init_44 : decode b_Scanner_init 44 = .ok (.invokevirtual 27, 3) := by decide +kernel
theorem d_Scanner_init_47 : decode b_Scanner_init 47 = .ok (.bipush 32, 2) := by decide +kernel
theorem d_Scanner_init_49 : decode b_Scanner_init 49 = .ok (.if_icmp .ne 14, 3) := by decide +kernel
theorem d_Scanner_init_52 : decode b_Scanner_init 52 = .ok (.iinc 2 1, 3) := by decide +kernel
theorem d_Scanner_init_55 : decode b_Scanner_init 55 = .ok (.iload 4, 2) := by decide +kernel
theorem d_Scanner_init_57 : decode b_Scanner_init 57 = .ok (.iconst 1, 1) := by decide +kernel
theorem d_Scanner_init_58 : decode b_Scanner_init 58 = .ok (.iadd, 1) := by decide +kernel
theorem d_Scanner_init_59 : decode b_Scanner_init 59 = .ok (.istore_n 3, 1) := by decide +kernel
theorem d_Scanner_init_60 : decode b_Scanner_init 60 = .ok (.goto 26, 3) := by decide +kernel
theorem d_Scanner_init_63 : decode b_Scanner_init 63 = .ok (.aload_n 0, 1) := by decide +kernel
theorem d_Scanner_init_64 : decode b_Scanner_init 64 = .ok (.getfield 15, 3) := by decide +kernel
theorem d_Scanner_init_67 : decode b_Scanner_init 67 = .ok (.iload_n 2, 1) := by decide +kernel
theorem d_Scanner_init_68 : decode b_Scanner_init 68 = .ok (.dup2, 1) := by decide +kernel
theorem d_Scanner_init_69 : decode b_Scanner_init 69 = .ok (.laload, 1) := by decide +kernel
theorem d_Scanner_init_70 : decode b_Scanner_init 70 = .ok (.ldc 19, 2) := by decide +kernel
theorem d_Scanner_init_72 : decode b_Scanner_init 72 = .ok (.iload 4, 2) := by decide +kernel
theorem d_Scanner_init_74 : decode b_Scanner_init 74 = .ok (.invokevirtual 27, 3) := by decide +kernel
theorem d_Scanner_init_77 : decode b_Scanner_init 77 = .ok (.iload 4, 2) := by decide +kernel
theorem d_Scanner_init_79 : decode b_Scanner_init 79 = .ok (.iload_n 3, 1) := by decide +kernel
theorem d_Scanner_init_80 : decode b_Scanner_init 80 = .ok (.isub, 1) := by decide +kernel
theorem d_Scanner_init_81 : decode b_Scanner_init 81 = .ok (.invokestatic 31, 3) := by decide +kernel
theorem d_Scanner_init_84 : decode b_Scanner_init 84 = .ok (.lor, 1) := by decide +kernel
theorem d_Scanner_init_85 : decode b_Scanner_init 85 = .ok (.lastore, 1) := by decide +kernel
theorem d_Scanner_init_86 : decode b_Scanner_init 86 = .ok (.iinc 4 1, 3) := by decide +kernel
theorem d_Scanner_init_89 : decode b_Scanner_init 89 = .ok (.goto (-65), 3) := by decide +kernel
theorem d_Scanner_init_92 : decode b_Scanner_init 92 = .ok (.return_, 1) := by decide +kernel
theorem d_Scanner_advance_0 : decode b_Scanner_advance 0 = .ok (.aload_n 0, 1) := by decide +kernel
theorem d_Scanner_advance_1 : decode b_Scanner_advance 1 = .ok (.aload_n 0, 1) := by decide +kernel
theorem d_Scanner_advance_2 : decode b_Scanner_advance 2 = .ok (.aload_n 0, 1) := by decide +kernel
theorem d_Scanner_advance_3 : decode b_Scanner_advance 3 = .ok (.getfield 47, 3) := by decide +kernel
theorem d_Scanner_advance_6 : decode b_Scanner_advance 6 = .ok (.invokevirtual 53, 3) := by decide +kernel
theorem d_Scanner_advance_9 : decode b_Scanner_advance 9 = .ok (.putfield 47, 3) := by decide +kernel
theorem d_Scanner_advance_12 : decode b_Scanner_advance 12 = .ok (.aload_n 0, 1) := by decide +kernel
theorem d_Scanner_advance_13 : decode b_Scanner_advance 13 = .ok (.aload_n 0, 1) := by decide +kernel
theorem d_Scanner_advance_14 : decode b_Scanner_advance 14 = .ok (.getfield 47, 3) := by decide +kernel
theorem d_Scanner_advance_17 : decode b_Scanner_advance 17 = .ok (.putfield 57, 3) := by decide +kernel
theorem d_Scanner_advance_20 : decode b_Scanner_advance 20 = .ok (.aload_n 0, 1) := by decide +kernel
theorem d_Scanner_advance_21 : decode b_Scanner_advance 21 = .ok (.getfield 47, 3) := by decide +kernel
theorem d_Scanner_advance_24 : decode b_Scanner_advance 24 = .ok (.aload_n 0, 1) := by decide +kernel
theorem d_Scanner_advance_25 : decode b_Scanner_advance 25 = .ok (.getfield 44, 3) := by decide +kernel
theorem d_Scanner_advance_28 : decode b_Scanner_advance 28 = .ok (.if_icmp .lt 11, 3) := by decide +kernel
theorem d_Scanner_advance_31 : decode b_Scanner_advance 31 = .ok (.aload_n 0, 1) := by decide +kernel
theorem d_Scanner_advance_32 : decode b_Scanner_advance 32 = .ok (.iconst 5, 1) := by decide +kernel
theorem d_Scanner_advance_33 : decode b_Scanner_advance 33 = .ok (.putfield 60, 3) := by decide +kernel
theorem d_Scanner_advance_36 : decode b_Scanner_advance 36 = .ok (.goto 84, 3) := by decide +kernel
theorem d_Scanner_advance_120 : decode b_Scanner_advance 120 = .ok (.return_, 1) := by decide +kernel
theorem d_Scanner_begin_0 : decode b_Scanner_begin 0 = .ok (.aload_n 0, 1) := by decide +kernel
theorem d_Scanner_begin_1 : decode b_Scanner_begin 1 = .ok (.iconst 0, 1) := by decide +kernel
theorem d_Scanner_begin_2 : decode b_Scanner_begin 2 = .ok (.iload_n 1, 1) := by decide +kernel
theorem d_Scanner_begin_3 : decode b_Scanner_begin 3 = .ok (.aload_n 0, 1) := by decide +kernel
theorem d_Scanner_begin_4 : decode b_Scanner_begin 4 = .ok (.getfield 9, 3) := by decide +kernel
theorem d_Scanner_begin_7 : decode b_Scanner_begin 7 = .ok (.arraylength, 1) := by decide +kernel
theorem d_Scanner_begin_8 : decode b_Scanner_begin 8 = .ok (.invokestatic 35, 3) := by decide +kernel
theorem d_Scanner_begin_11 : decode b_Scanner_begin 11 = .ok (.invokestatic 41, 3) := by decide +kernel
theorem d_Scanner_begin_14 : decode b_Scanner_begin 14 = .ok (.putfield 44, 3) := by decide +kernel
theorem d_Scanner_begin_17 : decode b_Scanner_begin 17 = .ok (.aload_n 0, 1) := by decide +kernel
theorem d_Scanner_begin_18 : decode b_Scanner_begin 18 = .ok (.iconst 0, 1) := by decide +kernel
theorem d_Scanner_begin_19 : decode b_Scanner_begin 19 = .ok (.putfield 47, 3) := by decide +kernel
theorem d_Scanner_begin_22 : decode b_Scanner_begin 22 = .ok (.aload_n 0, 1) := by decide +kernel
theorem d_Scanner_begin_23 : decode b_Scanner_begin 23 = .ok (.invokevirtual 50, 3) := by decide +kernel
theorem d_Scanner_begin_26 : decode b_Scanner_begin 26 = .ok (.return_, 1) := by decide +kernel
theorem d_Scanner_letterCode_0 : decode b_Scanner_letterCode 0 = .ok (.iload_n 0, 1) := by decide +kernel
theorem d_Scanner_letterCode_1 : decode b_Scanner_letterCode 1 = .ok (.bipush 97, 2) := by decide +kernel
theorem d_Scanner_letterCode_3 : decode b_Scanner_letterCode 3 = .ok (.isub, 1) := by decide +kernel
theorem d_Scanner_letterCode_4 : decode b_Scanner_letterCode 4 = .ok (.iconst 1, 1) := by decide +kernel
theorem d_Scanner_letterCode_5 : decode b_Scanner_letterCode 5 = .ok (.iadd, 1) := by decide +kernel
theorem d_Scanner_letterCode_6 : decode b_Scanner_letterCode 6 = .ok (.i2l, 1) := by decide +kernel
theorem d_Scanner_letterCode_7 : decode b_Scanner_letterCode 7 = .ok (.iconst 5, 1) := by decide +kernel
theorem d_Scanner_letterCode_8 : decode b_Scanner_letterCode 8 = .ok (.iload_n 1, 1) := by decide +kernel
theorem d_Scanner_letterCode_9 : decode b_Scanner_letterCode 9 = .ok (.imul, 1) := by decide +kernel
theorem d_Scanner_letterCode_10 : decode b_Scanner_letterCode 10 = .ok (.lshl, 1) := by decide +kernel
theorem d_Scanner_letterCode_11 : decode b_Scanner_letterCode 11 = .ok (.lreturn, 1) := by decide +kernel
theorem d_Scanner_skipBlanks_0 : decode b_Scanner_skipBlanks 0 = .ok (.iload_n 1, 1) := by decide +kernel
theorem d_Scanner_skipBlanks_1 : decode b_Scanner_skipBlanks 1 = .ok (.istore_n 2, 1) := by decide +kernel
theorem d_Scanner_skipBlanks_2 : decode b_Scanner_skipBlanks 2 = .ok (.iload_n 2, 1) := by decide +kernel
theorem d_Scanner_skipBlanks_3 : decode b_Scanner_skipBlanks 3 = .ok (.aload_n 0, 1) := by decide +kernel
theorem d_Scanner_skipBlanks_4 : decode b_Scanner_skipBlanks 4 = .ok (.getfield 44, 3) := by decide +kernel
theorem d_Scanner_skipBlanks_7 : decode b_Scanner_skipBlanks 7 = .ok (.if_icmp .ge 31, 3) := by decide +kernel
theorem d_Scanner_skipBlanks_38 : decode b_Scanner_skipBlanks 38 = .ok (.iload_n 2, 1) := by decide +kernel
theorem d_Scanner_skipBlanks_39 : decode b_Scanner_skipBlanks 39 = .ok (.ireturn, 1) := by decide +kernel
theorem d_Speech_init_0 : decode b_Speech_init 0 = .ok (.aload_n 0, 1) := by decide +kernel
theorem d_Speech_init_1 : decode b_Speech_init 1 = .ok (.invokespecial 3, 3) := by decide +kernel
theorem d_Speech_init_4 : decode b_Speech_init 4 = .ok (.aload_n 0, 1) := by decide +kernel
theorem d_Speech_init_5 : decode b_Speech_init 5 = .ok (.bipush 8, 2) := by decide +kernel
theorem d_Speech_init_7 : decode b_Speech_init 7 = .ok (.newarray .int, 2) := by decide +kernel
theorem d_Speech_init_9 : decode b_Speech_init 9 = .ok (.putfield 9, 3) := by decide +kernel
theorem d_Speech_init_12 : decode b_Speech_init 12 = .ok (.aload_n 0, 1) := by decide +kernel
theorem d_Speech_init_13 : decode b_Speech_init 13 = .ok (.bipush 12, 2) := by decide +kernel
theorem d_Speech_init_15 : decode b_Speech_init 15 = .ok (.newarray .int, 2) := by decide +kernel
theorem d_Speech_init_17 : decode b_Speech_init 17 = .ok (.putfield 15, 3) := by decide +kernel
theorem d_Speech_init_20 : decode b_Speech_init 20 = .ok (.aload_n 0, 1) := by decide +kernel
theorem d_Speech_init_21 : decode b_Speech_init 21 = .ok (.bipush 12, 2) := by decide +kernel
theorem d_Speech_init_23 : decode b_Speech_init 23 = .ok (.newarray .int, 2) := by decide +kernel
theorem d_Speech_init_25 : decode b_Speech_init 25 = .ok (.putfield 18, 3) := by decide +kernel
theorem d_Speech_init_28 : decode b_Speech_init 28 = .ok (.aload_n 0, 1) := by decide +kernel
theorem d_Speech_init_29 : decode b_Speech_init 29 = .ok (.bipush 12, 2) := by decide +kernel
theorem d_Speech_init_31 : decode b_Speech_init 31 = .ok (.newarray .int, 2) := by decide +kernel
theorem d_Speech_init_33 : decode b_Speech_init 33 = .ok (.putfield 21, 3) := by decide +kernel
theorem d_Speech_init_36 : decode b_Speech_init 36 = .ok (.aload_n 0, 1) := by decide +kernel
theorem d_Speech_init_37 : decode b_Speech_init 37 = .ok (.aload_n 1, 1) := by decide +kernel
theorem d_Speech_init_38 : decode b_Speech_init 38 = .ok (.putfield 24, 3) := by decide +kernel
theorem d_Speech_init_41 : decode b_Speech_init 41 = .ok (.return_, 1) := by decide +kernel
theorem d_Words_init_0 : decode b_Words_init 0 = .ok (.aload_n 0, 1) := by decide +kernel
theorem d_Words_init_1 : decode b_Words_init 1 = .ok (.invokespecial 3, 3) := by decide +kernel
theorem d_Words_init_4 : decode b_Words_init 4 = .ok (.aload_n 0, 1) := by decide +kernel
theorem d_Words_init_5 : decode b_Words_init 5 = .ok (.bipush 24, 2) := by decide +kernel
theorem d_Words_init_7 : decode b_Words_init 7 = .ok (.newarray .long, 2) := by decide +kernel
theorem d_Words_init_9 : decode b_Words_init 9 = .ok (.putfield 9, 3) := by decide +kernel
theorem d_Words_init_12 : decode b_Words_init 12 = .ok (.aload_n 0, 1) := by decide +kernel
theorem d_Words_init_13 : decode b_Words_init 13 = .ok (.bipush 96, 2) := by decide +kernel
theorem d_Words_init_15 : decode b_Words_init 15 = .ok (.newarray .int, 2) := by decide +kernel
theorem d_Words_init_17 : decode b_Words_init 17 = .ok (.putfield 15, 3) := by decide +kernel
theorem d_Words_init_20 : decode b_Words_init 20 = .ok (.return_, 1) := by decide +kernel
theorem d_Words_clear_0 : decode b_Words_clear 0 = .ok (.aload_n 0, 1) := by decide +kernel
theorem d_Words_clear_1 : decode b_Words_clear 1 = .ok (.iconst 0, 1) := by decide +kernel
theorem d_Words_clear_2 : decode b_Words_clear 2 = .ok (.putfield 19, 3) := by decide +kernel
theorem d_Words_clear_5 : decode b_Words_clear 5 = .ok (.return_, 1) := by decide +kernel
theorem d_Mo_init_0 : decode b_Mo_init 0 = .ok (.aload_n 0, 1) := by decide +kernel
theorem d_Mo_init_1 : decode b_Mo_init 1 = .ok (.invokespecial 1, 3) := by decide +kernel
theorem d_Mo_init_4 : decode b_Mo_init 4 = .ok (.aload_n 0, 1) := by decide +kernel
theorem d_Mo_init_5 : decode b_Mo_init 5 = .ok (.sipush 1620, 3) := by decide +kernel
theorem d_Mo_init_8 : decode b_Mo_init 8 = .ok (.newarray .byte, 2) := by decide +kernel
theorem d_Mo_init_10 : decode b_Mo_init 10 = .ok (.putfield 7, 3) := by decide +kernel
theorem d_Mo_init_13 : decode b_Mo_init 13 = .ok (.aload_n 0, 1) := by decide +kernel
theorem d_Mo_init_14 : decode b_Mo_init 14 = .ok (.sipush 1600, 3) := by decide +kernel
theorem d_Mo_init_17 : decode b_Mo_init 17 = .ok (.newarray .byte, 2) := by decide +kernel
theorem d_Mo_init_19 : decode b_Mo_init 19 = .ok (.putfield 13, 3) := by decide +kernel
theorem d_Mo_init_22 : decode b_Mo_init 22 = .ok (.aload_n 0, 1) := by decide +kernel
theorem d_Mo_init_23 : decode b_Mo_init 23 = .ok (.iconst (-1), 1) := by decide +kernel
theorem d_Mo_init_24 : decode b_Mo_init 24 = .ok (.putfield 16, 3) := by decide +kernel
theorem d_Mo_init_27 : decode b_Mo_init 27 = .ok (.aload_n 0, 1) := by decide +kernel
theorem d_Mo_init_28 : decode b_Mo_init 28 = .ok (.iconst 2, 1) := by decide +kernel
theorem d_Mo_init_29 : decode b_Mo_init 29 = .ok (.newarray .int, 2) := by decide +kernel
theorem d_Mo_init_31 : decode b_Mo_init 31 = .ok (.putfield 20, 3) := by decide +kernel
theorem d_Mo_init_34 : decode b_Mo_init 34 = .ok (.aload_n 0, 1) := by decide +kernel
theorem d_Mo_init_35 : decode b_Mo_init 35 = .ok (.iconst 2, 1) := by decide +kernel
theorem d_Mo_init_36 : decode b_Mo_init 36 = .ok (.newarray .int, 2) := by decide +kernel
theorem d_Mo_init_38 : decode b_Mo_init 38 = .ok (.putfield 24, 3) := by decide +kernel
theorem d_Mo_init_41 : decode b_Mo_init 41 = .ok (.aload_n 0, 1) := by decide +kernel
theorem d_Mo_init_42 : decode b_Mo_init 42 = .ok (.iconst 2, 1) := by decide +kernel
theorem d_Mo_init_43 : decode b_Mo_init 43 = .ok (.newarray .int, 2) := by decide +kernel
theorem d_Mo_init_45 : decode b_Mo_init 45 = .ok (.putfield 27, 3) := by decide +kernel
theorem d_Mo_init_48 : decode b_Mo_init 48 = .ok (.aload_n 0, 1) := by decide +kernel
theorem d_Mo_init_49 : decode b_Mo_init 49 = .ok (.iconst 2, 1) := by decide +kernel
theorem d_Mo_init_50 : decode b_Mo_init 50 = .ok (.newarray .int, 2) := by decide +kernel
theorem d_Mo_init_52 : decode b_Mo_init 52 = .ok (.putfield 30, 3) := by decide +kernel
theorem d_Mo_init_55 : decode b_Mo_init 55 = .ok (.aload_n 0, 1) := by decide +kernel
theorem d_Mo_init_56 : decode b_Mo_init 56 = .ok (.iconst 2, 1) := by decide +kernel
theorem d_Mo_init_57 : decode b_Mo_init 57 = .ok (.newarray .int, 2) := by decide +kernel
theorem d_Mo_init_59 : decode b_Mo_init 59 = .ok (.putfield 33, 3) := by decide +kernel
theorem d_Mo_init_62 : decode b_Mo_init 62 = .ok (.aload_n 0, 1) := by decide +kernel
theorem d_Mo_init_63 : decode b_Mo_init 63 = .ok (.iconst 2, 1) := by decide +kernel
theorem d_Mo_init_64 : decode b_Mo_init 64 = .ok (.newarray .int, 2) := by decide +kernel
theorem d_Mo_init_66 : decode b_Mo_init 66 = .ok (.putfield 36, 3) := by decide +kernel
theorem d_Mo_init_69 : decode b_Mo_init 69 = .ok (.aload_n 0, 1) := by decide +kernel
