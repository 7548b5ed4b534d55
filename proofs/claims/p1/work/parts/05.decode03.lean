theorem d_NF_child_2 : decode b_NF_child 2 = .ok (.invokevirtual 190, 3) := by decide +kernel
theorem d_NF_child_5 : decode b_NF_child 5 = .ok (.ifCond .eq 10, 3) := by decide +kernel
theorem d_NF_child_15 : decode b_NF_child 15 = .ok (.iconst (-1), 1) := by decide +kernel
theorem d_NF_child_16 : decode b_NF_child 16 = .ok (.ireturn, 1) := by decide +kernel
theorem d_NF_cost_0 : decode b_NF_cost 0 = .ok (.aload_n 0, 1) := by decide +kernel
theorem d_NF_cost_1 : decode b_NF_cost 1 = .ok (.iload_n 3, 1) := by decide +kernel
theorem d_NF_cost_2 : decode b_NF_cost 2 = .ok (.invokevirtual 176, 3) := by decide +kernel
theorem d_NF_cost_5 : decode b_NF_cost 5 = .ok (.ifCond .eq 16, 3) := by decide +kernel
theorem d_NF_cost_21 : decode b_NF_cost 21 = .ok (.iconst (-1), 1) := by decide +kernel
theorem d_NF_cost_22 : decode b_NF_cost 22 = .ok (.ireturn, 1) := by decide +kernel
theorem d_NF_die_0 : decode b_NF_die 0 = .ok (.aload_n 0, 1) := by decide +kernel
theorem d_NF_die_1 : decode b_NF_die 1 = .ok (.iload_n 1, 1) := by decide +kernel
theorem d_NF_die_2 : decode b_NF_die 2 = .ok (.invokevirtual 104, 3) := by decide +kernel
theorem d_NF_die_5 : decode b_NF_die 5 = .ok (.ifCond .eq 26, 3) := by decide +kernel
theorem d_NF_die_31 : decode b_NF_die 31 = .ok (.iconst (-1), 1) := by decide +kernel
theorem d_NF_die_32 : decode b_NF_die 32 = .ok (.ireturn, 1) := by decide +kernel
theorem d_NF_end_0 : decode b_NF_end 0 = .ok (.iload_n 1, 1) := by decide +kernel
theorem d_NF_end_1 : decode b_NF_end 1 = .ok (.ifCond .lt 11, 3) := by decide +kernel
theorem d_NF_end_4 : decode b_NF_end 4 = .ok (.iload_n 1, 1) := by decide +kernel
theorem d_NF_end_5 : decode b_NF_end 5 = .ok (.aload_n 0, 1) := by decide +kernel
theorem d_NF_end_6 : decode b_NF_end 6 = .ok (.getfield 76, 3) := by decide +kernel
theorem d_NF_end_9 : decode b_NF_end 9 = .ok (.if_icmp .le 5, 3) := by decide +kernel
theorem d_NF_end_12 : decode b_NF_end 12 = .ok (.iconst (-1), 1) := by decide +kernel
theorem d_NF_end_13 : decode b_NF_end 13 = .ok (.ireturn, 1) := by decide +kernel
theorem d_NF_end_14 : decode b_NF_end 14 = .ok (.aload_n 0, 1) := by decide +kernel
theorem d_NF_end_15 : decode b_NF_end 15 = .ok (.iload_n 1, 1) := by decide +kernel
theorem d_NF_end_16 : decode b_NF_end 16 = .ok (.putfield 76, 3) := by decide +kernel
theorem d_NF_end_19 : decode b_NF_end 19 = .ok (.iload_n 1, 1) := by decide +kernel
theorem d_NF_end_20 : decode b_NF_end 20 = .ok (.ireturn, 1) := by decide +kernel
theorem d_NF_fault_0 : decode b_NF_fault 0 = .ok (.iload_n 1, 1) := by decide +kernel
theorem d_NF_fault_1 : decode b_NF_fault 1 = .ok (.lookupswitch 43 #[(0, 27), (1, 35)], 27) := by decide +kernel
theorem d_NF_fault_28 : decode b_NF_fault 28 = .ok (.aload_n 0, 1) := by decide +kernel
theorem d_NF_fault_29 : decode b_NF_fault 29 = .ok (.getfield 38, 3) := by decide +kernel
theorem d_NF_fault_32 : decode b_NF_fault 32 = .ok (.getfield 92, 3) := by decide +kernel
theorem d_NF_fault_35 : decode b_NF_fault 35 = .ok (.ireturn, 1) := by decide +kernel
theorem d_NF_fault_36 : decode b_NF_fault 36 = .ok (.aload_n 0, 1) := by decide +kernel
theorem d_NF_fault_37 : decode b_NF_fault 37 = .ok (.getfield 38, 3) := by decide +kernel
theorem d_NF_fault_40 : decode b_NF_fault 40 = .ok (.getfield 101, 3) := by decide +kernel
theorem d_NF_fault_43 : decode b_NF_fault 43 = .ok (.ireturn, 1) := by decide +kernel
theorem d_NF_fault_44 : decode b_NF_fault 44 = .ok (.iconst (-1), 1) := by decide +kernel
theorem d_NF_fault_45 : decode b_NF_fault 45 = .ok (.ireturn, 1) := by decide +kernel
theorem d_NF_feed_0 : decode b_NF_feed 0 = .ok (.aload_n 0, 1) := by decide +kernel
theorem d_NF_feed_1 : decode b_NF_feed 1 = .ok (.getfield 76, 3) := by decide +kernel
theorem d_NF_feed_4 : decode b_NF_feed 4 = .ok (.bipush 20, 2) := by decide +kernel
theorem d_NF_feed_6 : decode b_NF_feed 6 = .ok (.iadd, 1) := by decide +kernel
theorem d_NF_feed_7 : decode b_NF_feed 7 = .ok (.sipush 1600, 3) := by decide +kernel
theorem d_NF_feed_10 : decode b_NF_feed 10 = .ok (.if_icmp .le 5, 3) := by decide +kernel
theorem d_NF_feed_15 : decode b_NF_feed 15 = .ok (.aload_n 0, 1) := by decide +kernel
theorem d_NF_feed_16 : decode b_NF_feed 16 = .ok (.iload_n 1, 1) := by decide +kernel
theorem d_NF_feed_17 : decode b_NF_feed 17 = .ok (.invokevirtual 80, 3) := by decide +kernel
theorem d_NF_feed_20 : decode b_NF_feed 20 = .ok (.aload_n 0, 1) := by decide +kernel
theorem d_NF_feed_21 : decode b_NF_feed 21 = .ok (.iload_n 2, 1) := by decide +kernel
theorem d_NF_feed_22 : decode b_NF_feed 22 = .ok (.invokevirtual 80, 3) := by decide +kernel
theorem d_NF_feed_25 : decode b_NF_feed 25 = .ok (.aload_n 0, 1) := by decide +kernel
theorem d_NF_feed_26 : decode b_NF_feed 26 = .ok (.iload_n 3, 1) := by decide +kernel
theorem d_NF_feed_27 : decode b_NF_feed 27 = .ok (.invokevirtual 80, 3) := by decide +kernel
theorem d_NF_feed_30 : decode b_NF_feed 30 = .ok (.aload_n 0, 1) := by decide +kernel
theorem d_NF_feed_31 : decode b_NF_feed 31 = .ok (.iload 4, 2) := by decide +kernel
theorem d_NF_feed_33 : decode b_NF_feed 33 = .ok (.invokevirtual 80, 3) := by decide +kernel
theorem d_NF_feed_36 : decode b_NF_feed 36 = .ok (.aload_n 0, 1) := by decide +kernel
theorem d_NF_feed_37 : decode b_NF_feed 37 = .ok (.iload 5, 2) := by decide +kernel
theorem d_NF_feed_39 : decode b_NF_feed 39 = .ok (.invokevirtual 80, 3) := by decide +kernel
theorem d_NF_feed_42 : decode b_NF_feed 42 = .ok (.aload_n 0, 1) := by decide +kernel
theorem d_NF_feed_43 : decode b_NF_feed 43 = .ok (.getfield 76, 3) := by decide +kernel
theorem d_NF_feed_46 : decode b_NF_feed 46 = .ok (.ireturn, 1) := by decide +kernel
theorem d_NF_grasp_0 : decode b_NF_grasp 0 = .ok (.aload_n 0, 1) := by decide +kernel
theorem d_NF_grasp_1 : decode b_NF_grasp 1 = .ok (.iload_n 1, 1) := by decide +kernel
theorem d_NF_grasp_2 : decode b_NF_grasp 2 = .ok (.iload_n 2, 1) := by decide +kernel
theorem d_NF_grasp_3 : decode b_NF_grasp 3 = .ok (.iload_n 3, 1) := by decide +kernel
theorem d_NF_grasp_4 : decode b_NF_grasp 4 = .ok (.iload 4, 2) := by decide +kernel
theorem d_NF_grasp_6 : decode b_NF_grasp 6 = .ok (.invokevirtual 161, 3) := by decide +kernel
theorem d_NF_grasp_9 : decode b_NF_grasp 9 = .ok (.ifCond .ne 5, 3) := by decide +kernel
theorem d_NF_grasp_12 : decode b_NF_grasp 12 = .ok (.iconst (-1), 1) := by decide +kernel
theorem d_NF_grasp_13 : decode b_NF_grasp 13 = .ok (.ireturn, 1) := by decide +kernel
theorem d_NF_hurt_0 : decode b_NF_hurt 0 = .ok (.aload_n 0, 1) := by decide +kernel
theorem d_NF_hurt_1 : decode b_NF_hurt 1 = .ok (.iload_n 1, 1) := by decide +kernel
theorem d_NF_hurt_2 : decode b_NF_hurt 2 = .ok (.invokevirtual 190, 3) := by decide +kernel
theorem d_NF_hurt_5 : decode b_NF_hurt 5 = .ok (.ifCond .eq 18, 3) := by decide +kernel
theorem d_NF_hurt_23 : decode b_NF_hurt 23 = .ok (.sipush (-1000), 3) := by decide +kernel
theorem d_NF_hurt_26 : decode b_NF_hurt 26 = .ok (.ireturn, 1) := by decide +kernel
theorem d_NF_instead_0 : decode b_NF_instead 0 = .ok (.aload_n 0, 1) := by decide +kernel
theorem d_NF_instead_1 : decode b_NF_instead 1 = .ok (.iload_n 3, 1) := by decide +kernel
theorem d_NF_instead_2 : decode b_NF_instead 2 = .ok (.invokevirtual 176, 3) := by decide +kernel
theorem d_NF_instead_5 : decode b_NF_instead 5 = .ok (.ifCond .eq 16, 3) := by decide +kernel
theorem d_NF_instead_21 : decode b_NF_instead 21 = .ok (.iconst (-1), 1) := by decide +kernel
theorem d_NF_instead_22 : decode b_NF_instead 22 = .ok (.ireturn, 1) := by decide +kernel
theorem d_NF_isMeaning_0 : decode b_NF_isMeaning 0 = .ok (.iload_n 1, 1) := by decide +kernel
theorem d_NF_isMeaning_1 : decode b_NF_isMeaning 1 = .ok (.ifCond .lt 21, 3) := by decide +kernel
theorem d_NF_isMeaning_4 : decode b_NF_isMeaning 4 = .ok (.iload_n 1, 1) := by decide +kernel
theorem d_NF_isMeaning_5 : decode b_NF_isMeaning 5 = .ok (.aload_n 0, 1) := by decide +kernel
theorem d_NF_isMeaning_6 : decode b_NF_isMeaning 6 = .ok (.getfield 21, 3) := by decide +kernel
theorem d_NF_isMeaning_9 : decode b_NF_isMeaning 9 = .ok (.getfield 206, 3) := by decide +kernel
theorem d_NF_isMeaning_12 : decode b_NF_isMeaning 12 = .ok (.getfield 210, 3) := by decide +kernel
theorem d_NF_isMeaning_15 : decode b_NF_isMeaning 15 = .ok (.if_icmp .ge 7, 3) := by decide +kernel
theorem d_NF_isMeaning_22 : decode b_NF_isMeaning 22 = .ok (.iconst 0, 1) := by decide +kernel
theorem d_NF_isMeaning_23 : decode b_NF_isMeaning 23 = .ok (.ireturn, 1) := by decide +kernel
theorem d_NF_isPerson_0 : decode b_NF_isPerson 0 = .ok (.iload_n 1, 1) := by decide +kernel
theorem d_NF_isPerson_1 : decode b_NF_isPerson 1 = .ok (.ifCond .lt 21, 3) := by decide +kernel
theorem d_NF_isPerson_4 : decode b_NF_isPerson 4 = .ok (.iload_n 1, 1) := by decide +kernel
theorem d_NF_isPerson_5 : decode b_NF_isPerson 5 = .ok (.aload_n 0, 1) := by decide +kernel
theorem d_NF_isPerson_6 : decode b_NF_isPerson 6 = .ok (.getfield 21, 3) := by decide +kernel
theorem d_NF_isPerson_9 : decode b_NF_isPerson 9 = .ok (.getfield 111, 3) := by decide +kernel
theorem d_NF_isPerson_12 : decode b_NF_isPerson 12 = .ok (.getfield 231, 3) := by decide +kernel
theorem d_NF_isPerson_15 : decode b_NF_isPerson 15 = .ok (.if_icmp .ge 7, 3) := by decide +kernel
theorem d_NF_isPerson_22 : decode b_NF_isPerson 22 = .ok (.iconst 0, 1) := by decide +kernel
theorem d_NF_isPerson_23 : decode b_NF_isPerson 23 = .ok (.ireturn, 1) := by decide +kernel
theorem d_NF_isPlace_0 : decode b_NF_isPlace 0 = .ok (.iload_n 1, 1) := by decide +kernel
theorem d_NF_isPlace_1 : decode b_NF_isPlace 1 = .ok (.ifCond .lt 21, 3) := by decide +kernel
theorem d_NF_isPlace_4 : decode b_NF_isPlace 4 = .ok (.iload_n 1, 1) := by decide +kernel
theorem d_NF_isPlace_5 : decode b_NF_isPlace 5 = .ok (.aload_n 0, 1) := by decide +kernel
theorem d_NF_isPlace_6 : decode b_NF_isPlace 6 = .ok (.getfield 21, 3) := by decide +kernel
theorem d_NF_isPlace_9 : decode b_NF_isPlace 9 = .ok (.getfield 193, 3) := by decide +kernel
theorem d_NF_isPlace_12 : decode b_NF_isPlace 12 = .ok (.getfield 282, 3) := by decide +kernel
theorem d_NF_isPlace_15 : decode b_NF_isPlace 15 = .ok (.if_icmp .ge 7, 3) := by decide +kernel
theorem d_NF_isPlace_22 : decode b_NF_isPlace 22 = .ok (.iconst 0, 1) := by decide +kernel
theorem d_NF_isPlace_23 : decode b_NF_isPlace 23 = .ok (.ireturn, 1) := by decide +kernel
theorem d_NF_isWord_0 : decode b_NF_isWord 0 = .ok (.iload_n 1, 1) := by decide +kernel
theorem d_NF_isWord_1 : decode b_NF_isWord 1 = .ok (.ifCond .lt 21, 3) := by decide +kernel
theorem d_NF_isWord_4 : decode b_NF_isWord 4 = .ok (.iload_n 1, 1) := by decide +kernel
theorem d_NF_isWord_5 : decode b_NF_isWord 5 = .ok (.aload_n 0, 1) := by decide +kernel
theorem d_NF_isWord_6 : decode b_NF_isWord 6 = .ok (.getfield 21, 3) := by decide +kernel
theorem d_NF_isWord_9 : decode b_NF_isWord 9 = .ok (.getfield 141, 3) := by decide +kernel
theorem d_NF_isWord_12 : decode b_NF_isWord 12 = .ok (.getfield 241, 3) := by decide +kernel
theorem d_NF_isWord_15 : decode b_NF_isWord 15 = .ok (.if_icmp .ge 7, 3) := by decide +kernel
theorem d_NF_isWord_22 : decode b_NF_isWord 22 = .ok (.iconst 0, 1) := by decide +kernel
theorem d_NF_isWord_23 : decode b_NF_isWord 23 = .ok (.ireturn, 1) := by decide +kernel
theorem d_NF_judge_0 : decode b_NF_judge 0 = .ok (.iload_n 3, 1) := by decide +kernel
theorem d_NF_judge_1 : decode b_NF_judge 1 = .ok (.iconst 1, 1) := by decide +kernel
theorem d_NF_judge_2 : decode b_NF_judge 2 = .ok (.if_icmp .lt 22, 3) := by decide +kernel
theorem d_NF_judge_5 : decode b_NF_judge 5 = .ok (.iload_n 3, 1) := by decide +kernel
theorem d_NF_judge_6 : decode b_NF_judge 6 = .ok (.ldc 172, 2) := by decide +kernel
theorem d_NF_judge_8 : decode b_NF_judge 8 = .ok (.if_icmp .gt 16, 3) := by decide +kernel
theorem d_NF_judge_11 : decode b_NF_judge 11 = .ok (.aload_n 0, 1) := by decide +kernel
theorem d_NF_judge_12 : decode b_NF_judge 12 = .ok (.iload_n 1, 1) := by decide +kernel
theorem d_NF_judge_13 : decode b_NF_judge 13 = .ok (.iload_n 2, 1) := by decide +kernel
theorem d_NF_judge_14 : decode b_NF_judge 14 = .ok (.iload 4, 2) := by decide +kernel
theorem d_NF_judge_16 : decode b_NF_judge 16 = .ok (.iload 5, 2) := by decide +kernel
theorem d_NF_judge_18 : decode b_NF_judge 18 = .ok (.invokevirtual 161, 3) := by decide +kernel
theorem d_NF_judge_21 : decode b_NF_judge 21 = .ok (.ifCond .ne 5, 3) := by decide +kernel
theorem d_NF_judge_24 : decode b_NF_judge 24 = .ok (.iconst (-1), 1) := by decide +kernel
theorem d_NF_judge_25 : decode b_NF_judge 25 = .ok (.ireturn, 1) := by decide +kernel
theorem d_NF_land_0 : decode b_NF_land 0 = .ok (.aload_n 0, 1) := by decide +kernel
theorem d_NF_land_1 : decode b_NF_land 1 = .ok (.getfield 38, 3) := by decide +kernel
theorem d_NF_land_4 : decode b_NF_land 4 = .ok (.aload_n 0, 1) := by decide +kernel
theorem d_NF_land_5 : decode b_NF_land 5 = .ok (.getfield 25, 3) := by decide +kernel
theorem d_NF_land_8 : decode b_NF_land 8 = .ok (.aload_n 0, 1) := by decide +kernel
theorem d_NF_land_9 : decode b_NF_land 9 = .ok (.getfield 76, 3) := by decide +kernel
theorem d_NF_land_12 : decode b_NF_land 12 = .ok (.invokevirtual 84, 3) := by decide +kernel
theorem d_NF_land_15 : decode b_NF_land 15 = .ok (.iconst 0, 1) := by decide +kernel
theorem d_NF_land_16 : decode b_NF_land 16 = .ok (.istore_n 1, 1) := by decide +kernel
theorem d_NF_land_17 : decode b_NF_land 17 = .ok (.iload_n 1, 1) := by decide +kernel
theorem d_NF_land_18 : decode b_NF_land 18 = .ok (.sipush 1600, 3) := by decide +kernel
theorem d_NF_land_21 : decode b_NF_land 21 = .ok (.if_icmp .ge 23, 3) := by decide +kernel
theorem d_NF_land_24 : decode b_NF_land 24 = .ok (.aload_n 0, 1) := by decide +kernel
theorem d_NF_land_25 : decode b_NF_land 25 = .ok (.getfield 38, 3) := by decide +kernel
theorem d_NF_land_28 : decode b_NF_land 28 = .ok (.aload_n 0, 1) := by decide +kernel
theorem d_NF_land_29 : decode b_NF_land 29 = .ok (.getfield 25, 3) := by decide +kernel
theorem d_NF_land_32 : decode b_NF_land 32 = .ok (.invokevirtual 88, 3) := by decide +kernel
theorem d_NF_land_35 : decode b_NF_land 35 = .ok (.ifCond .eq 9, 3) := by decide +kernel
theorem d_NF_land_44 : decode b_NF_land 44 = .ok (.aload_n 0, 1) := by decide +kernel
theorem d_NF_land_45 : decode b_NF_land 45 = .ok (.getfield 38, 3) := by decide +kernel
theorem d_NF_land_48 : decode b_NF_land 48 = .ok (.getfield 92, 3) := by decide +kernel
theorem d_NF_land_51 : decode b_NF_land 51 = .ok (.ifCond .eq 5, 3) := by decide +kernel
theorem d_NF_land_56 : decode b_NF_land 56 = .ok (.aload_n 0, 1) := by decide +kernel
theorem d_NF_land_57 : decode b_NF_land 57 = .ok (.getfield 25, 3) := by decide +kernel
theorem d_NF_land_60 : decode b_NF_land 60 = .ok (.invokevirtual 95, 3) := by decide +kernel
theorem d_NF_land_63 : decode b_NF_land 63 = .ok (.aload_n 0, 1) := by decide +kernel
theorem d_NF_land_64 : decode b_NF_land 64 = .ok (.getfield 21, 3) := by decide +kernel
theorem d_NF_land_67 : decode b_NF_land 67 = .ok (.astore_n 2, 1) := by decide +kernel
theorem d_NF_land_68 : decode b_NF_land 68 = .ok (.aload_n 0, 1) := by decide +kernel
theorem d_NF_land_69 : decode b_NF_land 69 = .ok (.aload_n 0, 1) := by decide +kernel
theorem d_NF_land_70 : decode b_NF_land 70 = .ok (.getfield 25, 3) := by decide +kernel
theorem d_NF_land_73 : decode b_NF_land 73 = .ok (.putfield 21, 3) := by decide +kernel
theorem d_NF_land_76 : decode b_NF_land 76 = .ok (.aload_n 0, 1) := by decide +kernel
theorem d_NF_land_77 : decode b_NF_land 77 = .ok (.aload_n 2, 1) := by decide +kernel
theorem d_NF_land_78 : decode b_NF_land 78 = .ok (.putfield 25, 3) := by decide +kernel
theorem d_NF_land_81 : decode b_NF_land 81 = .ok (.aload_n 0, 1) := by decide +kernel
theorem d_NF_land_82 : decode b_NF_land 82 = .ok (.iconst 0, 1) := by decide +kernel
theorem d_NF_land_83 : decode b_NF_land 83 = .ok (.putfield 76, 3) := by decide +kernel
theorem d_NF_land_86 : decode b_NF_land 86 = .ok (.aload_n 0, 1) := by decide +kernel
theorem d_NF_land_87 : decode b_NF_land 87 = .ok (.getfield 45, 3) := by decide +kernel
theorem d_NF_land_90 : decode b_NF_land 90 = .ok (.invokevirtual 98, 3) := by decide +kernel
theorem d_NF_land_93 : decode b_NF_land 93 = .ok (.iload_n 1, 1) := by decide +kernel
theorem d_NF_land_94 : decode b_NF_land 94 = .ok (.ireturn, 1) := by decide +kernel
theorem d_NF_later_0 : decode b_NF_later 0 = .ok (.aload_n 0, 1) := by decide +kernel
theorem d_NF_later_1 : decode b_NF_later 1 = .ok (.getfield 45, 3) := by decide +kernel
theorem d_NF_later_4 : decode b_NF_later 4 = .ok (.iload_n 1, 1) := by decide +kernel
theorem d_NF_later_5 : decode b_NF_later 5 = .ok (.invokevirtual 127, 3) := by decide +kernel
theorem d_NF_later_8 : decode b_NF_later 8 = .ok (.ireturn, 1) := by decide +kernel
theorem d_NF_may_0 : decode b_NF_may 0 = .ok (.aload_n 0, 1) := by decide +kernel
theorem d_NF_may_1 : decode b_NF_may 1 = .ok (.iload_n 3, 1) := by decide +kernel
theorem d_NF_may_2 : decode b_NF_may 2 = .ok (.invokevirtual 138, 3) := by decide +kernel
theorem d_NF_may_5 : decode b_NF_may 5 = .ok (.ifCond .eq 16, 3) := by decide +kernel
theorem d_NF_may_21 : decode b_NF_may 21 = .ok (.iconst (-1), 1) := by decide +kernel
theorem d_NF_may_22 : decode b_NF_may 22 = .ok (.ireturn, 1) := by decide +kernel
theorem d_NF_mean_0 : decode b_NF_mean 0 = .ok (.aload_n 0, 1) := by decide +kernel
theorem d_NF_mean_1 : decode b_NF_mean 1 = .ok (.iload_n 1, 1) := by decide +kernel
theorem d_NF_mean_2 : decode b_NF_mean 2 = .ok (.invokevirtual 190, 3) := by decide +kernel
theorem d_NF_mean_5 : decode b_NF_mean 5 = .ok (.ifCond .eq 24, 3) := by decide +kernel
theorem d_NF_mean_29 : decode b_NF_mean 29 = .ok (.iconst 0, 1) := by decide +kernel
theorem d_NF_mean_30 : decode b_NF_mean 30 = .ok (.istore 6, 2) := by decide +kernel
theorem d_NF_mean_32 : decode b_NF_mean 32 = .ok (.iload 6, 2) := by decide +kernel
theorem d_NF_mean_34 : decode b_NF_mean 34 = .ok (.ifCond .eq 14, 3) := by decide +kernel
theorem d_NF_mean_48 : decode b_NF_mean 48 = .ok (.ldc2_w 242, 3) := by decide +kernel
theorem d_NF_mean_51 : decode b_NF_mean 51 = .ok (.lreturn, 1) := by decide +kernel
theorem d_NF_near_0 : decode b_NF_near 0 = .ok (.aload_n 0, 1) := by decide +kernel
theorem d_NF_near_1 : decode b_NF_near 1 = .ok (.iload_n 1, 1) := by decide +kernel
theorem d_NF_near_2 : decode b_NF_near 2 = .ok (.invokevirtual 104, 3) := by decide +kernel
theorem d_NF_near_5 : decode b_NF_near 5 = .ok (.ifCond .eq 11, 3) := by decide +kernel
theorem d_NF_near_16 : decode b_NF_near 16 = .ok (.iconst (-1), 1) := by decide +kernel
theorem d_NF_near_17 : decode b_NF_near 17 = .ok (.ireturn, 1) := by decide +kernel
theorem d_NF_old_0 : decode b_NF_old 0 = .ok (.aload_n 0, 1) := by decide +kernel
theorem d_NF_old_1 : decode b_NF_old 1 = .ok (.iload_n 1, 1) := by decide +kernel
theorem d_NF_old_2 : decode b_NF_old 2 = .ok (.invokevirtual 176, 3) := by decide +kernel
theorem d_NF_old_5 : decode b_NF_old 5 = .ok (.ifCond .eq 12, 3) := by decide +kernel
theorem d_NF_old_17 : decode b_NF_old 17 = .ok (.iconst (-1), 1) := by decide +kernel
theorem d_NF_old_18 : decode b_NF_old 18 = .ok (.ireturn, 1) := by decide +kernel
theorem d_NF_parted_0 : decode b_NF_parted 0 = .ok (.aload_n 0, 1) := by decide +kernel
theorem d_NF_parted_1 : decode b_NF_parted 1 = .ok (.iload_n 1, 1) := by decide +kernel
theorem d_NF_parted_2 : decode b_NF_parted 2 = .ok (.invokevirtual 190, 3) := by decide +kernel
theorem d_NF_parted_5 : decode b_NF_parted 5 = .ok (.ifCond .eq 18, 3) := by decide +kernel
theorem d_NF_parted_23 : decode b_NF_parted 23 = .ok (.iconst (-1), 1) := by decide +kernel
theorem d_NF_parted_24 : decode b_NF_parted 24 = .ok (.ireturn, 1) := by decide +kernel
theorem d_NF_putBytes_0 : decode b_NF_putBytes 0 = .ok (.bipush 24, 2) := by decide +kernel
theorem d_NF_putBytes_2 : decode b_NF_putBytes 2 = .ok (.istore_n 2, 1) := by decide +kernel
theorem d_NF_putBytes_3 : decode b_NF_putBytes 3 = .ok (.iload_n 2, 1) := by decide +kernel
theorem d_NF_putBytes_4 : decode b_NF_putBytes 4 = .ok (.ifCond .lt 44, 3) := by decide +kernel
theorem d_NF_putBytes_7 : decode b_NF_putBytes 7 = .ok (.aload_n 0, 1) := by decide +kernel
theorem d_NF_putBytes_8 : decode b_NF_putBytes 8 = .ok (.getfield 76, 3) := by decide +kernel
theorem d_NF_putBytes_11 : decode b_NF_putBytes 11 = .ok (.aload_n 0, 1) := by decide +kernel
theorem d_NF_putBytes_12 : decode b_NF_putBytes 12 = .ok (.getfield 17, 3) := by decide +kernel
theorem d_NF_putBytes_15 : decode b_NF_putBytes 15 = .ok (.arraylength, 1) := by decide +kernel
theorem d_NF_putBytes_16 : decode b_NF_putBytes 16 = .ok (.if_icmp .ge 26, 3) := by decide +kernel
theorem d_NF_putBytes_19 : decode b_NF_putBytes 19 = .ok (.aload_n 0, 1) := by decide +kernel
theorem d_NF_putBytes_20 : decode b_NF_putBytes 20 = .ok (.getfield 17, 3) := by decide +kernel
theorem d_NF_putBytes_23 : decode b_NF_putBytes 23 = .ok (.aload_n 0, 1) := by decide +kernel
theorem d_NF_putBytes_24 : decode b_NF_putBytes 24 = .ok (.getfield 76, 3) := by decide +kernel
theorem d_NF_putBytes_27 : decode b_NF_putBytes 27 = .ok (.iload_n 1, 1) := by decide +kernel
theorem d_NF_putBytes_28 : decode b_NF_putBytes 28 = .ok (.iload_n 2, 1) := by decide +kernel
theorem d_NF_putBytes_29 : decode b_NF_putBytes 29 = .ok (.ishr, 1) := by decide +kernel
theorem d_NF_putBytes_30 : decode b_NF_putBytes 30 = .ok (.i2b, 1) := by decide +kernel
theorem d_NF_putBytes_31 : decode b_NF_putBytes 31 = .ok (.bastore, 1) := by decide +kernel
theorem d_NF_putBytes_32 : decode b_NF_putBytes 32 = .ok (.aload_n 0, 1) := by decide +kernel
theorem d_NF_putBytes_33 : decode b_NF_putBytes 33 = .ok (.dup, 1) := by decide +kernel
theorem d_NF_putBytes_34 : decode b_NF_putBytes 34 = .ok (.getfield 76, 3) := by decide +kernel
theorem d_NF_putBytes_37 : decode b_NF_putBytes 37 = .ok (.iconst 1, 1) := by decide +kernel
theorem d_NF_putBytes_38 : decode b_NF_putBytes 38 = .ok (.iadd, 1) := by decide +kernel
theorem d_NF_putBytes_39 : decode b_NF_putBytes 39 = .ok (.putfield 76, 3) := by decide +kernel
theorem d_NF_putBytes_42 : decode b_NF_putBytes 42 = .ok (.iinc 2 (-8), 3) := by decide +kernel
theorem d_NF_putBytes_45 : decode b_NF_putBytes 45 = .ok (.goto (-42), 3) := by decide +kernel
theorem d_NF_putBytes_48 : decode b_NF_putBytes 48 = .ok (.return_, 1) := by decide +kernel
theorem d_NF_renewed_0 : decode b_NF_renewed 0 = .ok (.aload_n 0, 1) := by decide +kernel
theorem d_NF_renewed_1 : decode b_NF_renewed 1 = .ok (.iload_n 1, 1) := by decide +kernel
theorem d_NF_renewed_2 : decode b_NF_renewed 2 = .ok (.invokevirtual 190, 3) := by decide +kernel
theorem d_NF_renewed_5 : decode b_NF_renewed 5 = .ok (.ifCond .eq 11, 3) := by decide +kernel
theorem d_NF_renewed_16 : decode b_NF_renewed 16 = .ok (.iconst (-1), 1) := by decide +kernel
theorem d_NF_renewed_17 : decode b_NF_renewed 17 = .ok (.ireturn, 1) := by decide +kernel
theorem d_NF_safe_0 : decode b_NF_safe 0 = .ok (.aload_n 0, 1) := by decide +kernel
theorem d_NF_safe_1 : decode b_NF_safe 1 = .ok (.iload_n 1, 1) := by decide +kernel
theorem d_NF_safe_2 : decode b_NF_safe 2 = .ok (.invokevirtual 190, 3) := by decide +kernel
theorem d_NF_safe_5 : decode b_NF_safe 5 = .ok (.ifCond .eq 11, 3) := by decide +kernel
theorem d_NF_safe_16 : decode b_NF_safe 16 = .ok (.iconst (-1), 1) := by decide +kernel
theorem d_NF_safe_17 : decode b_NF_safe 17 = .ok (.ireturn, 1) := by decide +kernel
theorem d_NF_tell_0 : decode b_NF_tell 0 = .ok (.aload_n 0, 1) := by decide +kernel
theorem d_NF_tell_1 : decode b_NF_tell 1 = .ok (.iload_n 3, 1) := by decide +kernel
theorem d_NF_tell_2 : decode b_NF_tell 2 = .ok (.invokevirtual 176, 3) := by decide +kernel
theorem d_NF_tell_5 : decode b_NF_tell 5 = .ok (.ifCond .eq 16, 3) := by decide +kernel
theorem d_NF_tell_21 : decode b_NF_tell 21 = .ok (.iconst (-1), 1) := by decide +kernel
theorem d_NF_tell_22 : decode b_NF_tell 22 = .ok (.ireturn, 1) := by decide +kernel
theorem d_NF_today_0 : decode b_NF_today 0 = .ok (.aload_n 0, 1) := by decide +kernel
theorem d_NF_today_1 : decode b_NF_today 1 = .ok (.iload_n 1, 1) := by decide +kernel
theorem d_NF_today_2 : decode b_NF_today 2 = .ok (.invokevirtual 190, 3) := by decide +kernel
theorem d_NF_today_5 : decode b_NF_today 5 = .ok (.ifCond .eq 18, 3) := by decide +kernel
theorem d_NF_today_23 : decode b_NF_today 23 = .ok (.iconst (-1), 1) := by decide +kernel
theorem d_NF_today_24 : decode b_NF_today 24 = .ok (.ireturn, 1) := by decide +kernel
theorem d_NF_told_0 : decode b_NF_told 0 = .ok (.aload_n 0, 1) := by decide +kernel
theorem d_NF_told_1 : decode b_NF_told 1 = .ok (.iload_n 3, 1) := by decide +kernel
theorem d_NF_told_2 : decode b_NF_told 2 = .ok (.invokevirtual 176, 3) := by decide +kernel
theorem d_NF_told_5 : decode b_NF_told 5 = .ok (.ifCond .eq 16, 3) := by decide +kernel
theorem d_NF_told_21 : decode b_NF_told 21 = .ok (.iconst (-1), 1) := by decide +kernel
theorem d_NF_told_22 : decode b_NF_told 22 = .ok (.ireturn, 1) := by decide +kernel
theorem d_NF_untell_0 : decode b_NF_untell 0 = .ok (.aload_n 0, 1) := by decide +kernel
theorem d_NF_untell_1 : decode b_NF_untell 1 = .ok (.getfield 45, 3) := by decide +kernel
theorem d_NF_untell_4 : decode b_NF_untell 4 = .ok (.iload_n 1, 1) := by decide +kernel
theorem d_NF_untell_5 : decode b_NF_untell 5 = .ok (.invokevirtual 124, 3) := by decide +kernel
theorem d_NF_untell_8 : decode b_NF_untell 8 = .ok (.ireturn, 1) := by decide +kernel
theorem d_NF_wish_0 : decode b_NF_wish 0 = .ok (.aload_n 0, 1) := by decide +kernel
theorem d_NF_wish_1 : decode b_NF_wish 1 = .ok (.iload_n 1, 1) := by decide +kernel
theorem d_NF_wish_2 : decode b_NF_wish 2 = .ok (.invokevirtual 190, 3) := by decide +kernel
theorem d_NF_wish_5 : decode b_NF_wish 5 = .ok (.ifCond .eq 10, 3) := by decide +kernel
theorem d_NF_wish_15 : decode b_NF_wish 15 = .ok (.iconst (-1), 1) := by decide +kernel
theorem d_NF_wish_16 : decode b_NF_wish 16 = .ok (.ireturn, 1) := by decide +kernel
theorem d_Chances_init_0 : decode b_Chances_init 0 = .ok (.aload_n 0, 1) := by decide +kernel
theorem d_Chances_init_1 : decode b_Chances_init 1 = .ok (.invokespecial 3, 3) := by decide +kernel
theorem d_Chances_init_4 : decode b_Chances_init 4 = .ok (.aload_n 0, 1) := by decide +kernel
theorem d_Chances_init_5 : decode b_Chances_init 5 = .ok (.bipush 10, 2) := by decide +kernel
theorem d_Chances_init_7 : decode b_Chances_init 7 = .ok (.newarray .int, 2) := by decide +kernel
theorem d_Chances_init_9 : decode b_Chances_init 9 = .ok (.putfield 9, 3) := by decide +kernel
theorem d_Chances_init_12 : decode b_Chances_init 12 = .ok (.aload_n 0, 1) := by decide +kernel
theorem d_Chances_init_13 : decode b_Chances_init 13 = .ok (.bipush 11, 2) := by decide +kernel
theorem d_Chances_init_15 : decode b_Chances_init 15 = .ok (.newarray .long, 2) := by decide +kernel
theorem d_Chances_init_17 : decode b_Chances_init 17 = .ok (.putfield 15, 3) := by decide +kernel
theorem d_Chances_init_20 : decode b_Chances_init 20 = .ok (.return_, 1) := by decide +kernel
theorem d_Deaths_init_0 : decode b_Deaths_init 0 = .ok (.aload_n 0, 1) := by decide +kernel
theorem d_Deaths_init_1 : decode b_Deaths_init 1 = .ok (.invokespecial 3, 3) := by decide +kernel
theorem d_Deaths_init_4 : decode b_Deaths_init 4 = .ok (.aload_n 0, 1) := by decide +kernel
theorem d_Deaths_init_5 : decode b_Deaths_init 5 = .ok (.bipush 60, 2) := by decide +kernel
theorem d_Deaths_init_7 : decode b_Deaths_init 7 = .ok (.newarray .int, 2) := by decide +kernel
theorem d_Deaths_init_9 : decode b_Deaths_init 9 = .ok (.putfield 9, 3) := by decide +kernel
theorem d_Deaths_init_12 : decode b_Deaths_init 12 = .ok (.aload_n 0, 1) := by decide +kernel
theorem d_Deaths_init_13 : decode b_Deaths_init 13 = .ok (.bipush 60, 2) := by decide +kernel
theorem d_Deaths_init_15 : decode b_Deaths_init 15 = .ok (.newarray .int, 2) := by decide +kernel
theorem d_Deaths_init_17 : decode b_Deaths_init 17 = .ok (.putfield 15, 3) := by decide +kernel
theorem d_Deaths_init_20 : decode b_Deaths_init 20 = .ok (.aload_n 0, 1) := by decide +kernel
theorem d_Deaths_init_21 : decode b_Deaths_init 21 = .ok (.bipush 60, 2) := by decide +kernel
theorem d_Deaths_init_23 : decode b_Deaths_init 23 = .ok (.newarray .int, 2) := by decide +kernel
theorem d_Deaths_init_25 : decode b_Deaths_init 25 = .ok (.putfield 18, 3) := by decide +kernel
theorem d_Deaths_init_28 : decode b_Deaths_init 28 = .ok (.aload_n 0, 1) := by decide +kernel
theorem d_Deaths_init_29 : decode b_Deaths_init 29 = .ok (.bipush 60, 2) := by decide +kernel
theorem d_Deaths_init_31 : decode b_Deaths_init 31 = .ok (.newarray .int, 2) := by decide +kernel
theorem d_Deaths_init_33 : decode b_Deaths_init 33 = .ok (.putfield 21, 3) := by decide +kernel
theorem d_Deaths_init_36 : decode b_Deaths_init 36 = .ok (.return_, 1) := by decide +kernel
theorem d_Deaths_forget_0 : decode b_Deaths_forget 0 = .ok (.aload_n 0, 1) := by decide +kernel
theorem d_Deaths_forget_1 : decode b_Deaths_forget 1 = .ok (.iconst 0, 1) := by decide +kernel
theorem d_Deaths_forget_2 : decode b_Deaths_forget 2 = .ok (.putfield 24, 3) := by decide +kernel
theorem d_Deaths_forget_5 : decode b_Deaths_forget 5 = .ok (.return_, 1) := by decide +kernel
theorem d_Deaths_goOn_0 : decode b_Deaths_goOn 0 = .ok (.iload_n 1, 1) := by decide +kernel
theorem d_Deaths_goOn_1 : decode b_Deaths_goOn 1 = .ok (.ifCond .lt 21, 3) := by decide +kernel
theorem d_Deaths_goOn_4 : decode b_Deaths_goOn 4 = .ok (.iload_n 1, 1) := by decide +kernel
theorem d_Deaths_goOn_5 : decode b_Deaths_goOn 5 = .ok (.sipush 1000, 3) := by decide +kernel
theorem d_Deaths_goOn_8 : decode b_Deaths_goOn 8 = .ok (.if_icmp .gt 14, 3) := by decide +kernel
theorem d_Deaths_goOn_11 : decode b_Deaths_goOn 11 = .ok (.aload_n 0, 1) := by decide +kernel
theorem d_Deaths_goOn_12 : decode b_Deaths_goOn 12 = .ok (.getfield 28, 3) := by decide +kernel
theorem d_Deaths_goOn_15 : decode b_Deaths_goOn 15 = .ok (.iload_n 1, 1) := by decide +kernel
theorem d_Deaths_goOn_16 : decode b_Deaths_goOn 16 = .ok (.iadd, 1) := by decide +kernel
theorem d_Deaths_goOn_17 : decode b_Deaths_goOn 17 = .ok (.ldc 31, 2) := by decide +kernel
theorem d_Deaths_goOn_19 : decode b_Deaths_goOn 19 = .ok (.if_icmp .le 5, 3) := by decide +kernel
theorem d_Deaths_goOn_22 : decode b_Deaths_goOn 22 = .ok (.iconst (-1), 1) := by decide +kernel
theorem d_Deaths_goOn_23 : decode b_Deaths_goOn 23 = .ok (.ireturn, 1) := by decide +kernel
theorem d_Deaths_goOn_24 : decode b_Deaths_goOn 24 = .ok (.aload_n 0, 1) := by decide +kernel
theorem d_Deaths_goOn_25 : decode b_Deaths_goOn 25 = .ok (.dup, 1) := by decide +kernel
theorem d_Deaths_goOn_26 : decode b_Deaths_goOn 26 = .ok (.getfield 28, 3) := by decide +kernel
theorem d_Deaths_goOn_29 : decode b_Deaths_goOn 29 = .ok (.iload_n 1, 1) := by decide +kernel
theorem d_Deaths_goOn_30 : decode b_Deaths_goOn 30 = .ok (.iadd, 1) := by decide +kernel
theorem d_Deaths_goOn_31 : decode b_Deaths_goOn 31 = .ok (.putfield 28, 3) := by decide +kernel
theorem d_Deaths_goOn_34 : decode b_Deaths_goOn 34 = .ok (.aload_n 0, 1) := by decide +kernel
theorem d_Deaths_goOn_35 : decode b_Deaths_goOn 35 = .ok (.getfield 28, 3) := by decide +kernel
theorem d_Deaths_goOn_38 : decode b_Deaths_goOn 38 = .ok (.ireturn, 1) := by decide +kernel
theorem d_Deaths_takeBack_0 : decode b_Deaths_takeBack 0 = .ok (.iload_n 1, 1) := by decide +kernel
theorem d_Deaths_takeBack_1 : decode b_Deaths_takeBack 1 = .ok (.ifCond .lt 21, 3) := by decide +kernel
theorem d_Deaths_takeBack_4 : decode b_Deaths_takeBack 4 = .ok (.iload_n 1, 1) := by decide +kernel
theorem d_Deaths_takeBack_5 : decode b_Deaths_takeBack 5 = .ok (.aload_n 0, 1) := by decide +kernel
theorem d_Deaths_takeBack_6 : decode b_Deaths_takeBack 6 = .ok (.getfield 24, 3) := by decide +kernel
theorem d_Deaths_takeBack_9 : decode b_Deaths_takeBack 9 = .ok (.if_icmp .ge 13, 3) := by decide +kernel
theorem d_Deaths_takeBack_22 : decode b_Deaths_takeBack 22 = .ok (.iconst 0, 1) := by decide +kernel
theorem d_Deaths_takeBack_23 : decode b_Deaths_takeBack 23 = .ok (.ireturn, 1) := by decide +kernel
theorem d_Falls_init_0 : decode b_Falls_init 0 = .ok (.aload_n 0, 1) := by decide +kernel
theorem d_Falls_init_1 : decode b_Falls_init 1 = .ok (.invokespecial 3, 3) := by decide +kernel
theorem d_Falls_init_4 : decode b_Falls_init 4 = .ok (.aload_n 0, 1) := by decide +kernel
theorem d_Falls_init_5 : decode b_Falls_init 5 = .ok (.bipush 12, 2) := by decide +kernel
theorem d_Falls_init_7 : decode b_Falls_init 7 = .ok (.newarray .int, 2) := by decide +kernel
theorem d_Falls_init_9 : decode b_Falls_init 9 = .ok (.putfield 9, 3) := by decide +kernel
theorem d_Falls_init_12 : decode b_Falls_init 12 = .ok (.aload_n 0, 1) := by decide +kernel
theorem d_Falls_init_13 : decode b_Falls_init 13 = .ok (.bipush 12, 2) := by decide +kernel
theorem d_Falls_init_15 : decode b_Falls_init 15 = .ok (.newarray .int, 2) := by decide +kernel
theorem d_Falls_init_17 : decode b_Falls_init 17 = .ok (.putfield 15, 3) := by decide +kernel
theorem d_Falls_init_20 : decode b_Falls_init 20 = .ok (.aload_n 0, 1) := by decide +kernel
theorem d_Falls_init_21 : decode b_Falls_init 21 = .ok (.iconst 4, 1) := by decide +kernel
theorem d_Falls_init_22 : decode b_Falls_init 22 = .ok (.newarray .int, 2) := by decide +kernel
theorem d_Falls_init_24 : decode b_Falls_init 24 = .ok (.putfield 18, 3) := by decide +kernel
theorem d_Falls_init_27 : decode b_Falls_init 27 = .ok (.aload_n 0, 1) := by decide +kernel
theorem d_Falls_init_28 : decode b_Falls_init 28 = .ok (.iconst 4, 1) := by decide +kernel
theorem d_Falls_init_29 : decode b_Falls_init 29 = .ok (.newarray .int, 2) := by decide +kernel
theorem d_Falls_init_31 : decode b_Falls_init 31 = .ok (.putfield 21, 3) := by decide +kernel
theorem d_Falls_init_34 : decode b_Falls_init 34 = .ok (.aload_n 0, 1) := by decide +kernel
theorem d_Falls_init_35 : decode b_Falls_init 35 = .ok (.aload_n 1, 1) := by decide +kernel
theorem d_Falls_init_36 : decode b_Falls_init 36 = .ok (.putfield 24, 3) := by decide +kernel
theorem d_Falls_init_39 : decode b_Falls_init 39 = .ok (.return_, 1) := by decide +kernel
theorem d_Land_init_0 : decode b_Land_init 0 = .ok (.aload_n 0, 1) := by decide +kernel
theorem d_Land_init_1 : decode b_Land_init 1 = .ok (.invokespecial 3, 3) := by decide +kernel
theorem d_Land_init_4 : decode b_Land_init 4 = .ok (.aload_n 0, 1) := by decide +kernel
theorem d_Land_init_5 : decode b_Land_init 5 = .ok (.new 9, 3) := by decide +kernel
theorem d_Land_init_8 : decode b_Land_init 8 = .ok (.dup, 1) := by decide +kernel
theorem d_Land_init_9 : decode b_Land_init 9 = .ok (.invokespecial 11, 3) := by decide +kernel
theorem d_Land_init_12 : decode b_Land_init 12 = .ok (.putfield 12, 3) := by decide +kernel
theorem d_Land_init_15 : decode b_Land_init 15 = .ok (.aload_n 0, 1) := by decide +kernel
theorem d_Land_init_16 : decode b_Land_init 16 = .ok (.new 18, 3) := by decide +kernel
theorem d_Land_init_19 : decode b_Land_init 19 = .ok (.dup, 1) := by decide +kernel
theorem d_Land_init_20 : decode b_Land_init 20 = .ok (.invokespecial 20, 3) := by decide +kernel
theorem d_Land_init_23 : decode b_Land_init 23 = .ok (.putfield 21, 3) := by decide +kernel
theorem d_Land_init_26 : decode b_Land_init 26 = .ok (.aload_n 0, 1) := by decide +kernel
theorem d_Land_init_27 : decode b_Land_init 27 = .ok (.new 25, 3) := by decide +kernel
theorem d_Land_init_30 : decode b_Land_init 30 = .ok (.dup, 1) := by decide +kernel
theorem d_Land_init_31 : decode b_Land_init 31 = .ok (.invokespecial 27, 3) := by decide +kernel
theorem d_Land_init_34 : decode b_Land_init 34 = .ok (.putfield 28, 3) := by decide +kernel
theorem d_Land_init_37 : decode b_Land_init 37 = .ok (.aload_n 0, 1) := by decide +kernel
theorem d_Land_init_38 : decode b_Land_init 38 = .ok (.new 32, 3) := by decide +kernel
theorem d_Land_init_41 : decode b_Land_init 41 = .ok (.dup, 1) := by decide +kernel
theorem d_Land_init_42 : decode b_Land_init 42 = .ok (.invokespecial 34, 3) := by decide +kernel
theorem d_Land_init_45 : decode b_Land_init 45 = .ok (.putfield 35, 3) := by decide +kernel
