theorem d_Mo_alive_1 : decode b_Mo_alive 1 = .ok (.iload_n 1, 1) := by decide +kernel
theorem d_Mo_alive_2 : decode b_Mo_alive 2 = .ok (.invokevirtual 309, 3) := by decide +kernel
theorem d_Mo_alive_5 : decode b_Mo_alive 5 = .ok (.ifCond .eq 10, 3) := by decide +kernel
theorem d_Mo_alive_15 : decode b_Mo_alive 15 = .ok (.iconst (-1), 1) := by decide +kernel
theorem d_Mo_alive_16 : decode b_Mo_alive 16 = .ok (.ireturn, 1) := by decide +kernel
theorem d_Mo_apart_0 : decode b_Mo_apart 0 = .ok (.aload_n 0, 1) := by decide +kernel
theorem d_Mo_apart_1 : decode b_Mo_apart 1 = .ok (.iload_n 1, 1) := by decide +kernel
theorem d_Mo_apart_2 : decode b_Mo_apart 2 = .ok (.invokevirtual 339, 3) := by decide +kernel
theorem d_Mo_apart_5 : decode b_Mo_apart 5 = .ok (.ifCond .eq 28, 3) := by decide +kernel
theorem d_Mo_apart_33 : decode b_Mo_apart 33 = .ok (.iconst (-1), 1) := by decide +kernel
theorem d_Mo_apart_34 : decode b_Mo_apart 34 = .ok (.ireturn, 1) := by decide +kernel
theorem d_Mo_changes_0 : decode b_Mo_changes 0 = .ok (.aload_n 0, 1) := by decide +kernel
theorem d_Mo_changes_1 : decode b_Mo_changes 1 = .ok (.iload_n 1, 1) := by decide +kernel
theorem d_Mo_changes_2 : decode b_Mo_changes 2 = .ok (.invokevirtual 402, 3) := by decide +kernel
theorem d_Mo_changes_5 : decode b_Mo_changes 5 = .ok (.ifCond .eq 20, 3) := by decide +kernel
theorem d_Mo_changes_25 : decode b_Mo_changes 25 = .ok (.iconst (-1), 1) := by decide +kernel
theorem d_Mo_changes_26 : decode b_Mo_changes 26 = .ok (.ireturn, 1) := by decide +kernel
theorem d_Mo_child_0 : decode b_Mo_child 0 = .ok (.aload_n 0, 1) := by decide +kernel
theorem d_Mo_child_1 : decode b_Mo_child 1 = .ok (.iload_n 1, 1) := by decide +kernel
theorem d_Mo_child_2 : decode b_Mo_child 2 = .ok (.invokevirtual 402, 3) := by decide +kernel
theorem d_Mo_child_5 : decode b_Mo_child 5 = .ok (.ifCond .eq 10, 3) := by decide +kernel
theorem d_Mo_child_15 : decode b_Mo_child 15 = .ok (.iconst (-1), 1) := by decide +kernel
theorem d_Mo_child_16 : decode b_Mo_child 16 = .ok (.ireturn, 1) := by decide +kernel
theorem d_Mo_cost_0 : decode b_Mo_cost 0 = .ok (.aload_n 0, 1) := by decide +kernel
theorem d_Mo_cost_1 : decode b_Mo_cost 1 = .ok (.iload_n 3, 1) := by decide +kernel
theorem d_Mo_cost_2 : decode b_Mo_cost 2 = .ok (.invokevirtual 388, 3) := by decide +kernel
theorem d_Mo_cost_5 : decode b_Mo_cost 5 = .ok (.ifCond .eq 16, 3) := by decide +kernel
theorem d_Mo_cost_21 : decode b_Mo_cost 21 = .ok (.iconst (-1), 1) := by decide +kernel
theorem d_Mo_cost_22 : decode b_Mo_cost 22 = .ok (.ireturn, 1) := by decide +kernel
theorem d_Mo_die_0 : decode b_Mo_die 0 = .ok (.aload_n 0, 1) := by decide +kernel
theorem d_Mo_die_1 : decode b_Mo_die 1 = .ok (.iload_n 1, 1) := by decide +kernel
theorem d_Mo_die_2 : decode b_Mo_die 2 = .ok (.invokevirtual 309, 3) := by decide +kernel
theorem d_Mo_die_5 : decode b_Mo_die 5 = .ok (.ifCond .eq 28, 3) := by decide +kernel
theorem d_Mo_die_33 : decode b_Mo_die 33 = .ok (.iconst (-1), 1) := by decide +kernel
theorem d_Mo_die_34 : decode b_Mo_die 34 = .ok (.ireturn, 1) := by decide +kernel
theorem d_Mo_end_0 : decode b_Mo_end 0 = .ok (.iload_n 1, 1) := by decide +kernel
theorem d_Mo_end_1 : decode b_Mo_end 1 = .ok (.ifCond .lt 11, 3) := by decide +kernel
theorem d_Mo_end_4 : decode b_Mo_end 4 = .ok (.iload_n 1, 1) := by decide +kernel
theorem d_Mo_end_5 : decode b_Mo_end 5 = .ok (.aload_n 0, 1) := by decide +kernel
theorem d_Mo_end_6 : decode b_Mo_end 6 = .ok (.getfield 237, 3) := by decide +kernel
theorem d_Mo_end_9 : decode b_Mo_end 9 = .ok (.if_icmp .le 5, 3) := by decide +kernel
theorem d_Mo_end_12 : decode b_Mo_end 12 = .ok (.iconst (-1), 1) := by decide +kernel
theorem d_Mo_end_13 : decode b_Mo_end 13 = .ok (.ireturn, 1) := by decide +kernel
theorem d_Mo_end_14 : decode b_Mo_end 14 = .ok (.aload_n 0, 1) := by decide +kernel
theorem d_Mo_end_15 : decode b_Mo_end 15 = .ok (.iload_n 1, 1) := by decide +kernel
theorem d_Mo_end_16 : decode b_Mo_end 16 = .ok (.putfield 237, 3) := by decide +kernel
theorem d_Mo_end_19 : decode b_Mo_end 19 = .ok (.iload_n 1, 1) := by decide +kernel
theorem d_Mo_end_20 : decode b_Mo_end 20 = .ok (.ireturn, 1) := by decide +kernel
theorem d_Mo_fault_0 : decode b_Mo_fault 0 = .ok (.iload_n 1, 1) := by decide +kernel
theorem d_Mo_fault_1 : decode b_Mo_fault 1 = .ok (.ifCond .ne 10, 3) := by decide +kernel
theorem d_Mo_fault_4 : decode b_Mo_fault 4 = .ok (.aload_n 0, 1) := by decide +kernel
theorem d_Mo_fault_5 : decode b_Mo_fault 5 = .ok (.getfield 145, 3) := by decide +kernel
theorem d_Mo_fault_8 : decode b_Mo_fault 8 = .ok (.goto 16, 3) := by decide +kernel
theorem d_Mo_fault_11 : decode b_Mo_fault 11 = .ok (.iload_n 1, 1) := by decide +kernel
theorem d_Mo_fault_12 : decode b_Mo_fault 12 = .ok (.iconst 1, 1) := by decide +kernel
theorem d_Mo_fault_13 : decode b_Mo_fault 13 = .ok (.if_icmp .ne 10, 3) := by decide +kernel
theorem d_Mo_fault_16 : decode b_Mo_fault 16 = .ok (.aload_n 0, 1) := by decide +kernel
theorem d_Mo_fault_17 : decode b_Mo_fault 17 = .ok (.getfield 16, 3) := by decide +kernel
theorem d_Mo_fault_20 : decode b_Mo_fault 20 = .ok (.goto 4, 3) := by decide +kernel
theorem d_Mo_fault_23 : decode b_Mo_fault 23 = .ok (.iconst (-1), 1) := by decide +kernel
theorem d_Mo_fault_24 : decode b_Mo_fault 24 = .ok (.ireturn, 1) := by decide +kernel
theorem d_Mo_feed_0 : decode b_Mo_feed 0 = .ok (.aload_n 0, 1) := by decide +kernel
theorem d_Mo_feed_1 : decode b_Mo_feed 1 = .ok (.getfield 237, 3) := by decide +kernel
theorem d_Mo_feed_4 : decode b_Mo_feed 4 = .ok (.bipush 20, 2) := by decide +kernel
theorem d_Mo_feed_6 : decode b_Mo_feed 6 = .ok (.iadd, 1) := by decide +kernel
theorem d_Mo_feed_7 : decode b_Mo_feed 7 = .ok (.sipush 1600, 3) := by decide +kernel
theorem d_Mo_feed_10 : decode b_Mo_feed 10 = .ok (.if_icmp .le 5, 3) := by decide +kernel
theorem d_Mo_feed_15 : decode b_Mo_feed 15 = .ok (.iconst 0, 1) := by decide +kernel
theorem d_Mo_feed_16 : decode b_Mo_feed 16 = .ok (.istore 6, 2) := by decide +kernel
theorem d_Mo_feed_18 : decode b_Mo_feed 18 = .ok (.iload 6, 2) := by decide +kernel
theorem d_Mo_feed_20 : decode b_Mo_feed 20 = .ok (.bipush 20, 2) := by decide +kernel
theorem d_Mo_feed_22 : decode b_Mo_feed 22 = .ok (.if_icmp .ge 83, 3) := by decide +kernel
theorem d_Mo_feed_25 : decode b_Mo_feed 25 = .ok (.iload 6, 2) := by decide +kernel
theorem d_Mo_feed_27 : decode b_Mo_feed 27 = .ok (.iconst 4, 1) := by decide +kernel
theorem d_Mo_feed_28 : decode b_Mo_feed 28 = .ok (.if_icmp .ge 7, 3) := by decide +kernel
theorem d_Mo_feed_31 : decode b_Mo_feed 31 = .ok (.iload_n 1, 1) := by decide +kernel
theorem d_Mo_feed_32 : decode b_Mo_feed 32 = .ok (.goto 39, 3) := by decide +kernel
theorem d_Mo_feed_35 : decode b_Mo_feed 35 = .ok (.iload 6, 2) := by decide +kernel
theorem d_Mo_feed_37 : decode b_Mo_feed 37 = .ok (.bipush 8, 2) := by decide +kernel
theorem d_Mo_feed_39 : decode b_Mo_feed 39 = .ok (.if_icmp .ge 7, 3) := by decide +kernel
theorem d_Mo_feed_42 : decode b_Mo_feed 42 = .ok (.iload_n 2, 1) := by decide +kernel
theorem d_Mo_feed_43 : decode b_Mo_feed 43 = .ok (.goto 28, 3) := by decide +kernel
theorem d_Mo_feed_46 : decode b_Mo_feed 46 = .ok (.iload 6, 2) := by decide +kernel
theorem d_Mo_feed_48 : decode b_Mo_feed 48 = .ok (.bipush 12, 2) := by decide +kernel
theorem d_Mo_feed_50 : decode b_Mo_feed 50 = .ok (.if_icmp .ge 7, 3) := by decide +kernel
theorem d_Mo_feed_53 : decode b_Mo_feed 53 = .ok (.iload_n 3, 1) := by decide +kernel
theorem d_Mo_feed_54 : decode b_Mo_feed 54 = .ok (.goto 17, 3) := by decide +kernel
theorem d_Mo_feed_57 : decode b_Mo_feed 57 = .ok (.iload 6, 2) := by decide +kernel
theorem d_Mo_feed_59 : decode b_Mo_feed 59 = .ok (.bipush 16, 2) := by decide +kernel
theorem d_Mo_feed_61 : decode b_Mo_feed 61 = .ok (.if_icmp .ge 8, 3) := by decide +kernel
theorem d_Mo_feed_64 : decode b_Mo_feed 64 = .ok (.iload 4, 2) := by decide +kernel
theorem d_Mo_feed_66 : decode b_Mo_feed 66 = .ok (.goto 5, 3) := by decide +kernel
theorem d_Mo_feed_69 : decode b_Mo_feed 69 = .ok (.iload 5, 2) := by decide +kernel
theorem d_Mo_feed_71 : decode b_Mo_feed 71 = .ok (.istore 7, 2) := by decide +kernel
theorem d_Mo_feed_73 : decode b_Mo_feed 73 = .ok (.aload_n 0, 1) := by decide +kernel
theorem d_Mo_feed_74 : decode b_Mo_feed 74 = .ok (.getfield 7, 3) := by decide +kernel
theorem d_Mo_feed_77 : decode b_Mo_feed 77 = .ok (.aload_n 0, 1) := by decide +kernel
theorem d_Mo_feed_78 : decode b_Mo_feed 78 = .ok (.getfield 237, 3) := by decide +kernel
theorem d_Mo_feed_81 : decode b_Mo_feed 81 = .ok (.iload 6, 2) := by decide +kernel
theorem d_Mo_feed_83 : decode b_Mo_feed 83 = .ok (.iadd, 1) := by decide +kernel
theorem d_Mo_feed_84 : decode b_Mo_feed 84 = .ok (.iload 7, 2) := by decide +kernel
theorem d_Mo_feed_86 : decode b_Mo_feed 86 = .ok (.bipush 24, 2) := by decide +kernel
theorem d_Mo_feed_88 : decode b_Mo_feed 88 = .ok (.bipush 8, 2) := by decide +kernel
theorem d_Mo_feed_90 : decode b_Mo_feed 90 = .ok (.iload 6, 2) := by decide +kernel
theorem d_Mo_feed_92 : decode b_Mo_feed 92 = .ok (.iconst 3, 1) := by decide +kernel
theorem d_Mo_feed_93 : decode b_Mo_feed 93 = .ok (.iand, 1) := by decide +kernel
theorem d_Mo_feed_94 : decode b_Mo_feed 94 = .ok (.imul, 1) := by decide +kernel
theorem d_Mo_feed_95 : decode b_Mo_feed 95 = .ok (.isub, 1) := by decide +kernel
theorem d_Mo_feed_96 : decode b_Mo_feed 96 = .ok (.ishr, 1) := by decide +kernel
theorem d_Mo_feed_97 : decode b_Mo_feed 97 = .ok (.i2b, 1) := by decide +kernel
theorem d_Mo_feed_98 : decode b_Mo_feed 98 = .ok (.bastore, 1) := by decide +kernel
theorem d_Mo_feed_99 : decode b_Mo_feed 99 = .ok (.iinc 6 1, 3) := by decide +kernel
theorem d_Mo_feed_102 : decode b_Mo_feed 102 = .ok (.goto (-84), 3) := by decide +kernel
theorem d_Mo_feed_105 : decode b_Mo_feed 105 = .ok (.aload_n 0, 1) := by decide +kernel
theorem d_Mo_feed_106 : decode b_Mo_feed 106 = .ok (.dup, 1) := by decide +kernel
theorem d_Mo_feed_107 : decode b_Mo_feed 107 = .ok (.getfield 237, 3) := by decide +kernel
theorem d_Mo_feed_110 : decode b_Mo_feed 110 = .ok (.bipush 20, 2) := by decide +kernel
theorem d_Mo_feed_112 : decode b_Mo_feed 112 = .ok (.iadd, 1) := by decide +kernel
theorem d_Mo_feed_113 : decode b_Mo_feed 113 = .ok (.putfield 237, 3) := by decide +kernel
theorem d_Mo_feed_116 : decode b_Mo_feed 116 = .ok (.aload_n 0, 1) := by decide +kernel
theorem d_Mo_feed_117 : decode b_Mo_feed 117 = .ok (.getfield 237, 3) := by decide +kernel
theorem d_Mo_feed_120 : decode b_Mo_feed 120 = .ok (.ireturn, 1) := by decide +kernel
theorem d_Mo_grasp_0 : decode b_Mo_grasp 0 = .ok (.aload_n 0, 1) := by decide +kernel
theorem d_Mo_grasp_1 : decode b_Mo_grasp 1 = .ok (.iload_n 1, 1) := by decide +kernel
theorem d_Mo_grasp_2 : decode b_Mo_grasp 2 = .ok (.iload_n 2, 1) := by decide +kernel
theorem d_Mo_grasp_3 : decode b_Mo_grasp 3 = .ok (.iload_n 3, 1) := by decide +kernel
theorem d_Mo_grasp_4 : decode b_Mo_grasp 4 = .ok (.iload 4, 2) := by decide +kernel
theorem d_Mo_grasp_6 : decode b_Mo_grasp 6 = .ok (.invokevirtual 370, 3) := by decide +kernel
theorem d_Mo_grasp_9 : decode b_Mo_grasp 9 = .ok (.ifCond .eq 13, 3) := by decide +kernel
theorem d_Mo_grasp_22 : decode b_Mo_grasp 22 = .ok (.iconst (-1), 1) := by decide +kernel
theorem d_Mo_grasp_23 : decode b_Mo_grasp 23 = .ok (.ireturn, 1) := by decide +kernel
theorem d_Mo_hurt_0 : decode b_Mo_hurt 0 = .ok (.aload_n 0, 1) := by decide +kernel
theorem d_Mo_hurt_1 : decode b_Mo_hurt 1 = .ok (.iload_n 1, 1) := by decide +kernel
theorem d_Mo_hurt_2 : decode b_Mo_hurt 2 = .ok (.invokevirtual 402, 3) := by decide +kernel
theorem d_Mo_hurt_5 : decode b_Mo_hurt 5 = .ok (.ifCond .eq 18, 3) := by decide +kernel
theorem d_Mo_hurt_23 : decode b_Mo_hurt 23 = .ok (.sipush (-1000), 3) := by decide +kernel
theorem d_Mo_hurt_26 : decode b_Mo_hurt 26 = .ok (.ireturn, 1) := by decide +kernel
theorem d_Mo_instead_0 : decode b_Mo_instead 0 = .ok (.aload_n 0, 1) := by decide +kernel
theorem d_Mo_instead_1 : decode b_Mo_instead 1 = .ok (.iload_n 3, 1) := by decide +kernel
theorem d_Mo_instead_2 : decode b_Mo_instead 2 = .ok (.invokevirtual 388, 3) := by decide +kernel
theorem d_Mo_instead_5 : decode b_Mo_instead 5 = .ok (.ifCond .eq 28, 3) := by decide +kernel
theorem d_Mo_instead_33 : decode b_Mo_instead 33 = .ok (.iconst (-1), 1) := by decide +kernel
theorem d_Mo_instead_34 : decode b_Mo_instead 34 = .ok (.ireturn, 1) := by decide +kernel
theorem d_Mo_isIn_0 : decode b_Mo_isIn 0 = .ok (.iload_n 0, 1) := by decide +kernel
theorem d_Mo_isIn_1 : decode b_Mo_isIn 1 = .ok (.iload_n 1, 1) := by decide +kernel
theorem d_Mo_isIn_2 : decode b_Mo_isIn 2 = .ok (.if_icmp .lt 12, 3) := by decide +kernel
theorem d_Mo_isIn_5 : decode b_Mo_isIn 5 = .ok (.iload_n 0, 1) := by decide +kernel
theorem d_Mo_isIn_6 : decode b_Mo_isIn 6 = .ok (.iload_n 2, 1) := by decide +kernel
theorem d_Mo_isIn_7 : decode b_Mo_isIn 7 = .ok (.if_icmp .gt 7, 3) := by decide +kernel
theorem d_Mo_isIn_10 : decode b_Mo_isIn 10 = .ok (.iconst 1, 1) := by decide +kernel
theorem d_Mo_isIn_11 : decode b_Mo_isIn 11 = .ok (.goto 4, 3) := by decide +kernel
theorem d_Mo_isIn_14 : decode b_Mo_isIn 14 = .ok (.iconst 0, 1) := by decide +kernel
theorem d_Mo_isIn_15 : decode b_Mo_isIn 15 = .ok (.ireturn, 1) := by decide +kernel
theorem d_Mo_isMeaning_0 : decode b_Mo_isMeaning 0 = .ok (.iload_n 1, 1) := by decide +kernel
theorem d_Mo_isMeaning_1 : decode b_Mo_isMeaning 1 = .ok (.iconst 0, 1) := by decide +kernel
theorem d_Mo_isMeaning_2 : decode b_Mo_isMeaning 2 = .ok (.aload_n 0, 1) := by decide +kernel
theorem d_Mo_isMeaning_3 : decode b_Mo_isMeaning 3 = .ok (.getfield 24, 3) := by decide +kernel
theorem d_Mo_isMeaning_6 : decode b_Mo_isMeaning 6 = .ok (.aload_n 0, 1) := by decide +kernel
theorem d_Mo_isMeaning_7 : decode b_Mo_isMeaning 7 = .ok (.getfield 240, 3) := by decide +kernel
theorem d_Mo_isMeaning_10 : decode b_Mo_isMeaning 10 = .ok (.iaload, 1) := by decide +kernel
theorem d_Mo_isMeaning_11 : decode b_Mo_isMeaning 11 = .ok (.iconst 1, 1) := by decide +kernel
theorem d_Mo_isMeaning_12 : decode b_Mo_isMeaning 12 = .ok (.isub, 1) := by decide +kernel
theorem d_Mo_isMeaning_13 : decode b_Mo_isMeaning 13 = .ok (.invokestatic 305, 3) := by decide +kernel
theorem d_Mo_isMeaning_16 : decode b_Mo_isMeaning 16 = .ok (.ireturn, 1) := by decide +kernel
theorem d_Mo_isPerson_0 : decode b_Mo_isPerson 0 = .ok (.iload_n 1, 1) := by decide +kernel
theorem d_Mo_isPerson_1 : decode b_Mo_isPerson 1 = .ok (.iconst 0, 1) := by decide +kernel
theorem d_Mo_isPerson_2 : decode b_Mo_isPerson 2 = .ok (.aload_n 0, 1) := by decide +kernel
theorem d_Mo_isPerson_3 : decode b_Mo_isPerson 3 = .ok (.getfield 33, 3) := by decide +kernel
theorem d_Mo_isPerson_6 : decode b_Mo_isPerson 6 = .ok (.aload_n 0, 1) := by decide +kernel
theorem d_Mo_isPerson_7 : decode b_Mo_isPerson 7 = .ok (.getfield 240, 3) := by decide +kernel
theorem d_Mo_isPerson_10 : decode b_Mo_isPerson 10 = .ok (.iaload, 1) := by decide +kernel
theorem d_Mo_isPerson_11 : decode b_Mo_isPerson 11 = .ok (.iconst 1, 1) := by decide +kernel
theorem d_Mo_isPerson_12 : decode b_Mo_isPerson 12 = .ok (.isub, 1) := by decide +kernel
theorem d_Mo_isPerson_13 : decode b_Mo_isPerson 13 = .ok (.invokestatic 305, 3) := by decide +kernel
theorem d_Mo_isPerson_16 : decode b_Mo_isPerson 16 = .ok (.ireturn, 1) := by decide +kernel
theorem d_Mo_isPlace_0 : decode b_Mo_isPlace 0 = .ok (.iload_n 1, 1) := by decide +kernel
theorem d_Mo_isPlace_1 : decode b_Mo_isPlace 1 = .ok (.iconst 0, 1) := by decide +kernel
theorem d_Mo_isPlace_2 : decode b_Mo_isPlace 2 = .ok (.aload_n 0, 1) := by decide +kernel
theorem d_Mo_isPlace_3 : decode b_Mo_isPlace 3 = .ok (.getfield 20, 3) := by decide +kernel
theorem d_Mo_isPlace_6 : decode b_Mo_isPlace 6 = .ok (.aload_n 0, 1) := by decide +kernel
theorem d_Mo_isPlace_7 : decode b_Mo_isPlace 7 = .ok (.getfield 240, 3) := by decide +kernel
theorem d_Mo_isPlace_10 : decode b_Mo_isPlace 10 = .ok (.iaload, 1) := by decide +kernel
theorem d_Mo_isPlace_11 : decode b_Mo_isPlace 11 = .ok (.iconst 1, 1) := by decide +kernel
theorem d_Mo_isPlace_12 : decode b_Mo_isPlace 12 = .ok (.isub, 1) := by decide +kernel
theorem d_Mo_isPlace_13 : decode b_Mo_isPlace 13 = .ok (.invokestatic 305, 3) := by decide +kernel
theorem d_Mo_isPlace_16 : decode b_Mo_isPlace 16 = .ok (.ireturn, 1) := by decide +kernel
theorem d_Mo_isWordNo_0 : decode b_Mo_isWordNo 0 = .ok (.iload_n 1, 1) := by decide +kernel
theorem d_Mo_isWordNo_1 : decode b_Mo_isWordNo 1 = .ok (.iconst 0, 1) := by decide +kernel
theorem d_Mo_isWordNo_2 : decode b_Mo_isWordNo 2 = .ok (.aload_n 0, 1) := by decide +kernel
theorem d_Mo_isWordNo_3 : decode b_Mo_isWordNo 3 = .ok (.getfield 27, 3) := by decide +kernel
theorem d_Mo_isWordNo_6 : decode b_Mo_isWordNo 6 = .ok (.aload_n 0, 1) := by decide +kernel
theorem d_Mo_isWordNo_7 : decode b_Mo_isWordNo 7 = .ok (.getfield 240, 3) := by decide +kernel
theorem d_Mo_isWordNo_10 : decode b_Mo_isWordNo 10 = .ok (.iaload, 1) := by decide +kernel
theorem d_Mo_isWordNo_11 : decode b_Mo_isWordNo 11 = .ok (.iconst 1, 1) := by decide +kernel
theorem d_Mo_isWordNo_12 : decode b_Mo_isWordNo 12 = .ok (.isub, 1) := by decide +kernel
theorem d_Mo_isWordNo_13 : decode b_Mo_isWordNo 13 = .ok (.invokestatic 305, 3) := by decide +kernel
theorem d_Mo_isWordNo_16 : decode b_Mo_isWordNo 16 = .ok (.ireturn, 1) := by decide +kernel
theorem d_Mo_judge_0 : decode b_Mo_judge 0 = .ok (.iload_n 3, 1) := by decide +kernel
theorem d_Mo_judge_1 : decode b_Mo_judge 1 = .ok (.iconst 1, 1) := by decide +kernel
theorem d_Mo_judge_2 : decode b_Mo_judge 2 = .ok (.if_icmp .lt 17, 3) := by decide +kernel
theorem d_Mo_judge_5 : decode b_Mo_judge 5 = .ok (.iload_n 3, 1) := by decide +kernel
theorem d_Mo_judge_6 : decode b_Mo_judge 6 = .ok (.ldc_w 377, 3) := by decide +kernel
theorem d_Mo_judge_9 : decode b_Mo_judge 9 = .ok (.if_icmp .ge 10, 3) := by decide +kernel
theorem d_Mo_judge_12 : decode b_Mo_judge 12 = .ok (.iload_n 3, 1) := by decide +kernel
theorem d_Mo_judge_13 : decode b_Mo_judge 13 = .ok (.bipush 32, 2) := by decide +kernel
theorem d_Mo_judge_15 : decode b_Mo_judge 15 = .ok (.irem, 1) := by decide +kernel
theorem d_Mo_judge_16 : decode b_Mo_judge 16 = .ok (.ifCond .ne 5, 3) := by decide +kernel
theorem d_Mo_judge_19 : decode b_Mo_judge 19 = .ok (.iconst (-1), 1) := by decide +kernel
theorem d_Mo_judge_20 : decode b_Mo_judge 20 = .ok (.ireturn, 1) := by decide +kernel
theorem d_Mo_judge_21 : decode b_Mo_judge 21 = .ok (.iload_n 3, 1) := by decide +kernel
theorem d_Mo_judge_22 : decode b_Mo_judge 22 = .ok (.istore 6, 2) := by decide +kernel
theorem d_Mo_judge_24 : decode b_Mo_judge 24 = .ok (.iload 6, 2) := by decide +kernel
theorem d_Mo_judge_26 : decode b_Mo_judge 26 = .ok (.bipush 32, 2) := by decide +kernel
theorem d_Mo_judge_28 : decode b_Mo_judge 28 = .ok (.irem, 1) := by decide +kernel
theorem d_Mo_judge_29 : decode b_Mo_judge 29 = .ok (.ifCond .le 29, 3) := by decide +kernel
theorem d_Mo_judge_32 : decode b_Mo_judge 32 = .ok (.aload_n 0, 1) := by decide +kernel
theorem d_Mo_judge_33 : decode b_Mo_judge 33 = .ok (.iload 6, 2) := by decide +kernel
theorem d_Mo_judge_35 : decode b_Mo_judge 35 = .ok (.bipush 32, 2) := by decide +kernel
theorem d_Mo_judge_37 : decode b_Mo_judge 37 = .ok (.irem, 1) := by decide +kernel
theorem d_Mo_judge_38 : decode b_Mo_judge 38 = .ok (.iconst 1, 1) := by decide +kernel
theorem d_Mo_judge_39 : decode b_Mo_judge 39 = .ok (.isub, 1) := by decide +kernel
theorem d_Mo_judge_40 : decode b_Mo_judge 40 = .ok (.invokevirtual 339, 3) := by decide +kernel
theorem d_Mo_judge_43 : decode b_Mo_judge 43 = .ok (.ifCond .ne 5, 3) := by decide +kernel
theorem d_Mo_judge_46 : decode b_Mo_judge 46 = .ok (.iconst (-1), 1) := by decide +kernel
theorem d_Mo_judge_47 : decode b_Mo_judge 47 = .ok (.ireturn, 1) := by decide +kernel
theorem d_Mo_judge_58 : decode b_Mo_judge 58 = .ok (.aload_n 0, 1) := by decide +kernel
theorem d_Mo_judge_59 : decode b_Mo_judge 59 = .ok (.iload_n 1, 1) := by decide +kernel
theorem d_Mo_judge_60 : decode b_Mo_judge 60 = .ok (.iload_n 2, 1) := by decide +kernel
theorem d_Mo_judge_61 : decode b_Mo_judge 61 = .ok (.iload 4, 2) := by decide +kernel
theorem d_Mo_judge_63 : decode b_Mo_judge 63 = .ok (.iload 5, 2) := by decide +kernel
theorem d_Mo_judge_65 : decode b_Mo_judge 65 = .ok (.invokevirtual 370, 3) := by decide +kernel
theorem d_Mo_judge_68 : decode b_Mo_judge 68 = .ok (.ifCond .ne 5, 3) := by decide +kernel
theorem d_Mo_judge_71 : decode b_Mo_judge 71 = .ok (.iconst (-1), 1) := by decide +kernel
theorem d_Mo_judge_72 : decode b_Mo_judge 72 = .ok (.ireturn, 1) := by decide +kernel
theorem d_Mo_later_0 : decode b_Mo_later 0 = .ok (.iload_n 1, 1) := by decide +kernel
theorem d_Mo_later_1 : decode b_Mo_later 1 = .ok (.iconst 0, 1) := by decide +kernel
theorem d_Mo_later_2 : decode b_Mo_later 2 = .ok (.sipush 1000, 3) := by decide +kernel
theorem d_Mo_later_5 : decode b_Mo_later 5 = .ok (.invokestatic 305, 3) := by decide +kernel
theorem d_Mo_later_8 : decode b_Mo_later 8 = .ok (.ifCond .eq 15, 3) := by decide +kernel
theorem d_Mo_later_11 : decode b_Mo_later 11 = .ok (.aload_n 0, 1) := by decide +kernel
theorem d_Mo_later_12 : decode b_Mo_later 12 = .ok (.getfield 318, 3) := by decide +kernel
theorem d_Mo_later_15 : decode b_Mo_later 15 = .ok (.iload_n 1, 1) := by decide +kernel
theorem d_Mo_later_16 : decode b_Mo_later 16 = .ok (.iadd, 1) := by decide +kernel
theorem d_Mo_later_17 : decode b_Mo_later 17 = .ok (.ldc_w 321, 3) := by decide +kernel
theorem d_Mo_later_20 : decode b_Mo_later 20 = .ok (.if_icmp .le 5, 3) := by decide +kernel
theorem d_Mo_later_23 : decode b_Mo_later 23 = .ok (.iconst (-1), 1) := by decide +kernel
theorem d_Mo_later_24 : decode b_Mo_later 24 = .ok (.ireturn, 1) := by decide +kernel
theorem d_Mo_later_25 : decode b_Mo_later 25 = .ok (.aload_n 0, 1) := by decide +kernel
theorem d_Mo_later_26 : decode b_Mo_later 26 = .ok (.dup, 1) := by decide +kernel
theorem d_Mo_later_27 : decode b_Mo_later 27 = .ok (.getfield 318, 3) := by decide +kernel
theorem d_Mo_later_30 : decode b_Mo_later 30 = .ok (.iload_n 1, 1) := by decide +kernel
theorem d_Mo_later_31 : decode b_Mo_later 31 = .ok (.iadd, 1) := by decide +kernel
theorem d_Mo_later_32 : decode b_Mo_later 32 = .ok (.putfield 318, 3) := by decide +kernel
theorem d_Mo_later_35 : decode b_Mo_later 35 = .ok (.aload_n 0, 1) := by decide +kernel
theorem d_Mo_later_36 : decode b_Mo_later 36 = .ok (.getfield 318, 3) := by decide +kernel
theorem d_Mo_later_39 : decode b_Mo_later 39 = .ok (.ireturn, 1) := by decide +kernel
theorem d_Mo_may_0 : decode b_Mo_may 0 = .ok (.aload_n 0, 1) := by decide +kernel
theorem d_Mo_may_1 : decode b_Mo_may 1 = .ok (.iload_n 3, 1) := by decide +kernel
theorem d_Mo_may_2 : decode b_Mo_may 2 = .ok (.invokevirtual 339, 3) := by decide +kernel
theorem d_Mo_may_5 : decode b_Mo_may 5 = .ok (.ifCond .eq 16, 3) := by decide +kernel
theorem d_Mo_may_21 : decode b_Mo_may 21 = .ok (.iconst (-1), 1) := by decide +kernel
theorem d_Mo_may_22 : decode b_Mo_may 22 = .ok (.goto 20, 3) := by decide +kernel
theorem d_Mo_may_42 : decode b_Mo_may 42 = .ok (.ireturn, 1) := by decide +kernel
theorem d_Mo_mean_0 : decode b_Mo_mean 0 = .ok (.aload_n 0, 1) := by decide +kernel
theorem d_Mo_mean_1 : decode b_Mo_mean 1 = .ok (.iload_n 1, 1) := by decide +kernel
theorem d_Mo_mean_2 : decode b_Mo_mean 2 = .ok (.invokevirtual 402, 3) := by decide +kernel
theorem d_Mo_mean_5 : decode b_Mo_mean 5 = .ok (.ifCond .eq 30, 3) := by decide +kernel
theorem d_Mo_mean_35 : decode b_Mo_mean 35 = .ok (.ldc2_w 429, 3) := by decide +kernel
theorem d_Mo_mean_38 : decode b_Mo_mean 38 = .ok (.lreturn, 1) := by decide +kernel
theorem d_Mo_near_0 : decode b_Mo_near 0 = .ok (.aload_n 0, 1) := by decide +kernel
theorem d_Mo_near_1 : decode b_Mo_near 1 = .ok (.iload_n 1, 1) := by decide +kernel
theorem d_Mo_near_2 : decode b_Mo_near 2 = .ok (.invokevirtual 309, 3) := by decide +kernel
theorem d_Mo_near_5 : decode b_Mo_near 5 = .ok (.ifCond .eq 25, 3) := by decide +kernel
theorem d_Mo_near_30 : decode b_Mo_near 30 = .ok (.iconst (-1), 1) := by decide +kernel
theorem d_Mo_near_31 : decode b_Mo_near 31 = .ok (.ireturn, 1) := by decide +kernel
theorem d_Mo_old_0 : decode b_Mo_old 0 = .ok (.aload_n 0, 1) := by decide +kernel
theorem d_Mo_old_1 : decode b_Mo_old 1 = .ok (.iload_n 1, 1) := by decide +kernel
theorem d_Mo_old_2 : decode b_Mo_old 2 = .ok (.invokevirtual 388, 3) := by decide +kernel
theorem d_Mo_old_5 : decode b_Mo_old 5 = .ok (.ifCond .eq 12, 3) := by decide +kernel
theorem d_Mo_old_17 : decode b_Mo_old 17 = .ok (.iconst (-1), 1) := by decide +kernel
theorem d_Mo_old_18 : decode b_Mo_old 18 = .ok (.ireturn, 1) := by decide +kernel
theorem d_Mo_parted_0 : decode b_Mo_parted 0 = .ok (.aload_n 0, 1) := by decide +kernel
theorem d_Mo_parted_1 : decode b_Mo_parted 1 = .ok (.iload_n 1, 1) := by decide +kernel
theorem d_Mo_parted_2 : decode b_Mo_parted 2 = .ok (.invokevirtual 402, 3) := by decide +kernel
theorem d_Mo_parted_5 : decode b_Mo_parted 5 = .ok (.ifCond .eq 18, 3) := by decide +kernel
theorem d_Mo_parted_23 : decode b_Mo_parted 23 = .ok (.iconst (-1), 1) := by decide +kernel
theorem d_Mo_parted_24 : decode b_Mo_parted 24 = .ok (.ireturn, 1) := by decide +kernel
theorem d_Mo_renewed_0 : decode b_Mo_renewed 0 = .ok (.aload_n 0, 1) := by decide +kernel
theorem d_Mo_renewed_1 : decode b_Mo_renewed 1 = .ok (.iload_n 1, 1) := by decide +kernel
theorem d_Mo_renewed_2 : decode b_Mo_renewed 2 = .ok (.invokevirtual 402, 3) := by decide +kernel
theorem d_Mo_renewed_5 : decode b_Mo_renewed 5 = .ok (.ifCond .eq 11, 3) := by decide +kernel
theorem d_Mo_renewed_16 : decode b_Mo_renewed 16 = .ok (.iconst (-1), 1) := by decide +kernel
theorem d_Mo_renewed_17 : decode b_Mo_renewed 17 = .ok (.ireturn, 1) := by decide +kernel
theorem d_Mo_safe_0 : decode b_Mo_safe 0 = .ok (.aload_n 0, 1) := by decide +kernel
theorem d_Mo_safe_1 : decode b_Mo_safe 1 = .ok (.iload_n 1, 1) := by decide +kernel
theorem d_Mo_safe_2 : decode b_Mo_safe 2 = .ok (.invokevirtual 402, 3) := by decide +kernel
theorem d_Mo_safe_5 : decode b_Mo_safe 5 = .ok (.ifCond .eq 11, 3) := by decide +kernel
theorem d_Mo_safe_16 : decode b_Mo_safe 16 = .ok (.iconst (-1), 1) := by decide +kernel
theorem d_Mo_safe_17 : decode b_Mo_safe 17 = .ok (.ireturn, 1) := by decide +kernel
theorem d_Mo_speak_0 : decode b_Mo_speak 0 = .ok (.aload_n 0, 1) := by decide +kernel
theorem d_Mo_speak_1 : decode b_Mo_speak 1 = .ok (.iload_n 1, 1) := by decide +kernel
theorem d_Mo_speak_2 : decode b_Mo_speak 2 = .ok (.invokevirtual 309, 3) := by decide +kernel
theorem d_Mo_speak_5 : decode b_Mo_speak 5 = .ok (.ifCond .eq 23, 3) := by decide +kernel
theorem d_Mo_speak_28 : decode b_Mo_speak 28 = .ok (.iconst 0, 1) := by decide +kernel
theorem d_Mo_speak_29 : decode b_Mo_speak 29 = .ok (.ireturn, 1) := by decide +kernel
theorem d_Mo_tell_0 : decode b_Mo_tell 0 = .ok (.aload_n 0, 1) := by decide +kernel
theorem d_Mo_tell_1 : decode b_Mo_tell 1 = .ok (.iload_n 3, 1) := by decide +kernel
theorem d_Mo_tell_2 : decode b_Mo_tell 2 = .ok (.invokevirtual 388, 3) := by decide +kernel
theorem d_Mo_tell_5 : decode b_Mo_tell 5 = .ok (.ifCond .eq 28, 3) := by decide +kernel
theorem d_Mo_tell_33 : decode b_Mo_tell 33 = .ok (.iconst (-1), 1) := by decide +kernel
theorem d_Mo_tell_34 : decode b_Mo_tell 34 = .ok (.ireturn, 1) := by decide +kernel
theorem d_Mo_today_0 : decode b_Mo_today 0 = .ok (.aload_n 0, 1) := by decide +kernel
theorem d_Mo_today_1 : decode b_Mo_today 1 = .ok (.iload_n 1, 1) := by decide +kernel
theorem d_Mo_today_2 : decode b_Mo_today 2 = .ok (.invokevirtual 402, 3) := by decide +kernel
theorem d_Mo_today_5 : decode b_Mo_today 5 = .ok (.ifCond .eq 18, 3) := by decide +kernel
theorem d_Mo_today_23 : decode b_Mo_today 23 = .ok (.iconst (-1), 1) := by decide +kernel
theorem d_Mo_today_24 : decode b_Mo_today 24 = .ok (.ireturn, 1) := by decide +kernel
theorem d_Mo_told_0 : decode b_Mo_told 0 = .ok (.aload_n 0, 1) := by decide +kernel
theorem d_Mo_told_1 : decode b_Mo_told 1 = .ok (.iload_n 1, 1) := by decide +kernel
theorem d_Mo_told_2 : decode b_Mo_told 2 = .ok (.iload_n 2, 1) := by decide +kernel
theorem d_Mo_told_3 : decode b_Mo_told 3 = .ok (.iload_n 3, 1) := by decide +kernel
theorem d_Mo_told_4 : decode b_Mo_told 4 = .ok (.iload 4, 2) := by decide +kernel
theorem d_Mo_told_6 : decode b_Mo_told 6 = .ok (.iload 6, 2) := by decide +kernel
theorem d_Mo_told_8 : decode b_Mo_told 8 = .ok (.invokevirtual 423, 3) := by decide +kernel
theorem d_Mo_told_11 : decode b_Mo_told 11 = .ok (.istore 7, 2) := by decide +kernel
theorem d_Mo_told_13 : decode b_Mo_told 13 = .ok (.iload 5, 2) := by decide +kernel
theorem d_Mo_told_15 : decode b_Mo_told 15 = .ok (.iconst 0, 1) := by decide +kernel
theorem d_Mo_told_16 : decode b_Mo_told 16 = .ok (.iload 7, 2) := by decide +kernel
theorem d_Mo_told_18 : decode b_Mo_told 18 = .ok (.iconst 1, 1) := by decide +kernel
theorem d_Mo_told_19 : decode b_Mo_told 19 = .ok (.isub, 1) := by decide +kernel
theorem d_Mo_told_20 : decode b_Mo_told 20 = .ok (.invokestatic 305, 3) := by decide +kernel
theorem d_Mo_told_23 : decode b_Mo_told 23 = .ok (.ifCond .eq 13, 3) := by decide +kernel
theorem d_Mo_told_36 : decode b_Mo_told 36 = .ok (.iconst (-1), 1) := by decide +kernel
theorem d_Mo_told_37 : decode b_Mo_told 37 = .ok (.ireturn, 1) := by decide +kernel
theorem d_Mo_untell_0 : decode b_Mo_untell 0 = .ok (.iload_n 1, 1) := by decide +kernel
theorem d_Mo_untell_1 : decode b_Mo_untell 1 = .ok (.iconst 0, 1) := by decide +kernel
theorem d_Mo_untell_2 : decode b_Mo_untell 2 = .ok (.aload_n 0, 1) := by decide +kernel
theorem d_Mo_untell_3 : decode b_Mo_untell 3 = .ok (.getfield 249, 3) := by decide +kernel
theorem d_Mo_untell_6 : decode b_Mo_untell 6 = .ok (.iconst 1, 1) := by decide +kernel
theorem d_Mo_untell_7 : decode b_Mo_untell 7 = .ok (.isub, 1) := by decide +kernel
theorem d_Mo_untell_8 : decode b_Mo_untell 8 = .ok (.invokestatic 305, 3) := by decide +kernel
theorem d_Mo_untell_11 : decode b_Mo_untell 11 = .ok (.ifCond .eq 12, 3) := by decide +kernel
theorem d_Mo_untell_23 : decode b_Mo_untell 23 = .ok (.iconst 0, 1) := by decide +kernel
theorem d_Mo_untell_24 : decode b_Mo_untell 24 = .ok (.ireturn, 1) := by decide +kernel
theorem d_Mo_wish_0 : decode b_Mo_wish 0 = .ok (.aload_n 0, 1) := by decide +kernel
theorem d_Mo_wish_1 : decode b_Mo_wish 1 = .ok (.iload_n 1, 1) := by decide +kernel
theorem d_Mo_wish_2 : decode b_Mo_wish 2 = .ok (.invokevirtual 402, 3) := by decide +kernel
theorem d_Mo_wish_5 : decode b_Mo_wish 5 = .ok (.ifCond .eq 10, 3) := by decide +kernel
theorem d_Mo_wish_15 : decode b_Mo_wish 15 = .ok (.iconst (-1), 1) := by decide +kernel
theorem d_Mo_wish_16 : decode b_Mo_wish 16 = .ok (.ireturn, 1) := by decide +kernel
