theorem d_NF_isMeaning_0 : decode b_NF_isMeaning 0 = .ok (.iload_n 1, 1) := by decide +kernel
theorem d_NF_isMeaning_1 : decode b_NF_isMeaning 1 = .ok (.ifCond .lt 21, 3) := by decide +kernel
theorem d_NF_isMeaning_4 : decode b_NF_isMeaning 4 = .ok (.iload_n 1, 1) := by decide +kernel
theorem d_NF_isMeaning_5 : decode b_NF_isMeaning 5 = .ok (.aload_n 0, 1) := by decide +kernel
theorem d_NF_isMeaning_6 : decode b_NF_isMeaning 6 = .ok (.getfield 21, 3) := by decide +kernel
theorem d_NF_isMeaning_9 : decode b_NF_isMeaning 9 = .ok (.getfield 206, 3) := by decide +kernel
theorem d_NF_isMeaning_12 : decode b_NF_isMeaning 12 = .ok (.getfield 210, 3) := by decide +kernel
theorem d_NF_isMeaning_15 : decode b_NF_isMeaning 15 = .ok (.if_icmp .ge 7, 3) := by decide +kernel
theorem d_NF_isMeaning_18 : decode b_NF_isMeaning 18 = .ok (.iconst 1, 1) := by decide +kernel
theorem d_NF_isMeaning_19 : decode b_NF_isMeaning 19 = .ok (.goto 4, 3) := by decide +kernel
theorem d_NF_isMeaning_22 : decode b_NF_isMeaning 22 = .ok (.iconst 0, 1) := by decide +kernel
theorem d_NF_isMeaning_23 : decode b_NF_isMeaning 23 = .ok (.ireturn, 1) := by decide +kernel
theorem d_NF_isPerson_0 : decode b_NF_isPerson 0 = .ok (.iload_n 1, 1) := by decide +kernel
theorem d_NF_isPerson_1 : decode b_NF_isPerson 1 = .ok (.ifCond .lt 21, 3) := by decide +kernel
theorem d_NF_isPerson_4 : decode b_NF_isPerson 4 = .ok (.iload_n 1, 1) := by decide +kernel
theorem d_NF_isPerson_5 : decode b_NF_isPerson 5 = .ok (.aload_n 0, 1) := by decide +kernel
theorem d_NF_isPerson_6 : decode b_NF_isPerson 6 = .ok (.getfield 21, 3) := by decide +kernel
theorem d_NF_isPerson_9 : decode b_NF_isPerson 9 = .ok (.getfield 111, 3) := by decide +kernel
theorem d_NF_isPerson_12 : decode b_NF_isPerson 12 = .ok (.getfield 231, 3) := by decide +kernel
theorem d_NF_isPerson_15 : decode b_NF_isPerson 15 = .ok (.if_icmp .ge 7, 3) := by decide +kernel
theorem d_NF_isPerson_18 : decode b_NF_isPerson 18 = .ok (.iconst 1, 1) := by decide +kernel
theorem d_NF_isPerson_19 : decode b_NF_isPerson 19 = .ok (.goto 4, 3) := by decide +kernel
theorem d_NF_isPerson_22 : decode b_NF_isPerson 22 = .ok (.iconst 0, 1) := by decide +kernel
theorem d_NF_isPerson_23 : decode b_NF_isPerson 23 = .ok (.ireturn, 1) := by decide +kernel
theorem d_NF_isPlace_0 : decode b_NF_isPlace 0 = .ok (.iload_n 1, 1) := by decide +kernel
theorem d_NF_isPlace_1 : decode b_NF_isPlace 1 = .ok (.ifCond .lt 21, 3) := by decide +kernel
theorem d_NF_isPlace_4 : decode b_NF_isPlace 4 = .ok (.iload_n 1, 1) := by decide +kernel
theorem d_NF_isPlace_5 : decode b_NF_isPlace 5 = .ok (.aload_n 0, 1) := by decide +kernel
theorem d_NF_isPlace_6 : decode b_NF_isPlace 6 = .ok (.getfield 21, 3) := by decide +kernel
theorem d_NF_isPlace_9 : decode b_NF_isPlace 9 = .ok (.getfield 193, 3) := by decide +kernel
theorem d_NF_isPlace_12 : decode b_NF_isPlace 12 = .ok (.getfield 282, 3) := by decide +kernel
theorem d_NF_isPlace_15 : decode b_NF_isPlace 15 = .ok (.if_icmp .ge 7, 3) := by decide +kernel
theorem d_NF_isPlace_18 : decode b_NF_isPlace 18 = .ok (.iconst 1, 1) := by decide +kernel
theorem d_NF_isPlace_19 : decode b_NF_isPlace 19 = .ok (.goto 4, 3) := by decide +kernel
theorem d_NF_isPlace_22 : decode b_NF_isPlace 22 = .ok (.iconst 0, 1) := by decide +kernel
theorem d_NF_isPlace_23 : decode b_NF_isPlace 23 = .ok (.ireturn, 1) := by decide +kernel
theorem d_NF_isWord_0 : decode b_NF_isWord 0 = .ok (.iload_n 1, 1) := by decide +kernel
theorem d_NF_isWord_1 : decode b_NF_isWord 1 = .ok (.ifCond .lt 21, 3) := by decide +kernel
theorem d_NF_isWord_4 : decode b_NF_isWord 4 = .ok (.iload_n 1, 1) := by decide +kernel
theorem d_NF_isWord_5 : decode b_NF_isWord 5 = .ok (.aload_n 0, 1) := by decide +kernel
theorem d_NF_isWord_6 : decode b_NF_isWord 6 = .ok (.getfield 21, 3) := by decide +kernel
theorem d_NF_isWord_9 : decode b_NF_isWord 9 = .ok (.getfield 141, 3) := by decide +kernel
theorem d_NF_isWord_12 : decode b_NF_isWord 12 = .ok (.getfield 241, 3) := by decide +kernel
theorem d_NF_isWord_15 : decode b_NF_isWord 15 = .ok (.if_icmp .ge 7, 3) := by decide +kernel
theorem d_NF_isWord_18 : decode b_NF_isWord 18 = .ok (.iconst 1, 1) := by decide +kernel
theorem d_NF_isWord_19 : decode b_NF_isWord 19 = .ok (.goto 4, 3) := by decide +kernel
theorem d_NF_isWord_22 : decode b_NF_isWord 22 = .ok (.iconst 0, 1) := by decide +kernel
theorem d_NF_isWord_23 : decode b_NF_isWord 23 = .ok (.ireturn, 1) := by decide +kernel
theorem d_NF_isYear_0 : decode b_NF_isYear 0 = .ok (.iload_n 0, 1) := by decide +kernel
theorem d_NF_isYear_1 : decode b_NF_isYear 1 = .ok (.ifCond .lt 14, 3) := by decide +kernel
theorem d_NF_isYear_4 : decode b_NF_isYear 4 = .ok (.iload_n 0, 1) := by decide +kernel
theorem d_NF_isYear_5 : decode b_NF_isYear 5 = .ok (.sipush 199, 3) := by decide +kernel
theorem d_NF_isYear_8 : decode b_NF_isYear 8 = .ok (.if_icmp .gt 7, 3) := by decide +kernel
theorem d_NF_isYear_11 : decode b_NF_isYear 11 = .ok (.iconst 1, 1) := by decide +kernel
theorem d_NF_isYear_12 : decode b_NF_isYear 12 = .ok (.goto 4, 3) := by decide +kernel
theorem d_NF_isYear_15 : decode b_NF_isYear 15 = .ok (.iconst 0, 1) := by decide +kernel
theorem d_NF_isYear_16 : decode b_NF_isYear 16 = .ok (.ireturn, 1) := by decide +kernel
theorem d_NF_later_0 : decode b_NF_later 0 = .ok (.aload_n 0, 1) := by decide +kernel
theorem d_NF_later_1 : decode b_NF_later 1 = .ok (.getfield 45, 3) := by decide +kernel
theorem d_NF_later_4 : decode b_NF_later 4 = .ok (.iload_n 1, 1) := by decide +kernel
theorem d_NF_later_5 : decode b_NF_later 5 = .ok (.invokevirtual 127, 3) := by decide +kernel
theorem d_NF_later_8 : decode b_NF_later 8 = .ok (.ireturn, 1) := by decide +kernel
theorem d_Deaths_forget_0 : decode b_Deaths_forget 0 = .ok (.aload_n 0, 1) := by decide +kernel
theorem d_Deaths_forget_1 : decode b_Deaths_forget 1 = .ok (.iconst 0, 1) := by decide +kernel
theorem d_Deaths_forget_2 : decode b_Deaths_forget 2 = .ok (.putfield 24, 3) := by decide +kernel
theorem d_Deaths_forget_5 : decode b_Deaths_forget 5 = .ok (.return_, 1) := by decide +kernel
theorem d_Deaths_goOn_0 : decode b_Deaths_goOn 0 = .ok (.iload_n 1, 1) := by decide +kernel
theorem d_Deaths_goOn_1 : decode b_Deaths_goOn 1 = .ok (.ifCond .lt 21, 3) := by decide +kernel
theorem d_Deaths_goOn_4 : decode b_Deaths_goOn 4 = .ok (.iload_n 1, 1) := by decide +kernel
theorem d_Deaths_goOn_5 : decode b_Deaths_goOn 5 = .ok (.sipush 1000, 3) := by decide +kernel
theorem d_Deaths_goOn_8 : decode b_Deaths_goOn 8 = .ok (.if_icmp .gt 14, 3) := by decide +kernel
theorem d_Deaths_goOn_11 : decode b_Deaths_goOn 11 = .ok (.aload_n 0, 1) := by decide +kernel
theorem d_Deaths_goOn_12 : decode b_Deaths_goOn 12 = .ok (.getfield 28, 3) := by decide +kernel
theorem d_Deaths_goOn_15 : decode b_Deaths_goOn 15 = .ok (.iload_n 1, 1) := by decide +kernel
theorem d_Deaths_goOn_16 : decode b_Deaths_goOn 16 = .ok (.iadd, 1) := by decide +kernel
theorem d_Deaths_goOn_17 : decode b_Deaths_goOn 17 = .ok (.ldc 31, 2) := by decide +kernel
theorem d_Deaths_goOn_19 : decode b_Deaths_goOn 19 = .ok (.if_icmp .le 5, 3) := by decide +kernel
theorem d_Deaths_goOn_22 : decode b_Deaths_goOn 22 = .ok (.iconst (-1), 1) := by decide +kernel
theorem d_Deaths_goOn_23 : decode b_Deaths_goOn 23 = .ok (.ireturn, 1) := by decide +kernel
theorem d_Deaths_goOn_24 : decode b_Deaths_goOn 24 = .ok (.aload_n 0, 1) := by decide +kernel
theorem d_Deaths_goOn_25 : decode b_Deaths_goOn 25 = .ok (.dup, 1) := by decide +kernel
theorem d_Deaths_goOn_26 : decode b_Deaths_goOn 26 = .ok (.getfield 28, 3) := by decide +kernel
theorem d_Deaths_goOn_29 : decode b_Deaths_goOn 29 = .ok (.iload_n 1, 1) := by decide +kernel
theorem d_Deaths_goOn_30 : decode b_Deaths_goOn 30 = .ok (.iadd, 1) := by decide +kernel
theorem d_Deaths_goOn_31 : decode b_Deaths_goOn 31 = .ok (.putfield 28, 3) := by decide +kernel
theorem d_Deaths_goOn_34 : decode b_Deaths_goOn 34 = .ok (.aload_n 0, 1) := by decide +kernel
theorem d_Deaths_goOn_35 : decode b_Deaths_goOn 35 = .ok (.getfield 28, 3) := by decide +kernel
theorem d_Deaths_goOn_38 : decode b_Deaths_goOn 38 = .ok (.ireturn, 1) := by decide +kernel
theorem d_Mo_isIn_0 : decode b_Mo_isIn 0 = .ok (.iload_n 0, 1) := by decide +kernel
theorem d_Mo_isIn_1 : decode b_Mo_isIn 1 = .ok (.iload_n 1, 1) := by decide +kernel
theorem d_Mo_isIn_2 : decode b_Mo_isIn 2 = .ok (.if_icmp .lt 12, 3) := by decide +kernel
theorem d_Mo_isIn_5 : decode b_Mo_isIn 5 = .ok (.iload_n 0, 1) := by decide +kernel
theorem d_Mo_isIn_6 : decode b_Mo_isIn 6 = .ok (.iload_n 2, 1) := by decide +kernel
theorem d_Mo_isIn_7 : decode b_Mo_isIn 7 = .ok (.if_icmp .gt 7, 3) := by decide +kernel
theorem d_Mo_isIn_10 : decode b_Mo_isIn 10 = .ok (.iconst 1, 1) := by decide +kernel
theorem d_Mo_isIn_11 : decode b_Mo_isIn 11 = .ok (.goto 4, 3) := by decide +kernel
theorem d_Mo_isIn_14 : decode b_Mo_isIn 14 = .ok (.iconst 0, 1) := by decide +kernel
theorem d_Mo_isIn_15 : decode b_Mo_isIn 15 = .ok (.ireturn, 1) := by decide +kernel
theorem d_Mo_later_0 : decode b_Mo_later 0 = .ok (.iload_n 1, 1) := by decide +kernel
theorem d_Mo_later_1 : decode b_Mo_later 1 = .ok (.iconst 0, 1) := by decide +kernel
theorem d_Mo_later_2 : decode b_Mo_later 2 = .ok (.sipush 1000, 3) := by decide +kernel
theorem d_Mo_later_5 : decode b_Mo_later 5 = .ok (.invokestatic 305, 3) := by decide +kernel
theorem d_Mo_later_8 : decode b_Mo_later 8 = .ok (.ifCond .eq 15, 3) := by decide +kernel
theorem d_Mo_later_11 : decode b_Mo_later 11 = .ok (.aload_n 0, 1) := by decide +kernel
theorem d_Mo_later_12 : decode b_Mo_later 12 = .ok (.getfield 318, 3) := by decide +kernel
theorem d_Mo_later_15 : decode b_Mo_later 15 = .ok (.iload_n 1, 1) := by decide +kernel
theorem d_Mo_later_16 : decode b_Mo_later 16 = .ok (.iadd, 1) := by decide +kernel
theorem d_Mo_later_17 : decode b_Mo_later 17 = .ok (.ldc_w 321, 3) := by decide +kernel
theorem d_Mo_later_20 : decode b_Mo_later 20 = .ok (.if_icmp .le 5, 3) := by decide +kernel
theorem d_Mo_later_23 : decode b_Mo_later 23 = .ok (.iconst (-1), 1) := by decide +kernel
theorem d_Mo_later_24 : decode b_Mo_later 24 = .ok (.ireturn, 1) := by decide +kernel
theorem d_Mo_later_25 : decode b_Mo_later 25 = .ok (.aload_n 0, 1) := by decide +kernel
theorem d_Mo_later_26 : decode b_Mo_later 26 = .ok (.dup, 1) := by decide +kernel
theorem d_Mo_later_27 : decode b_Mo_later 27 = .ok (.getfield 318, 3) := by decide +kernel
theorem d_Mo_later_30 : decode b_Mo_later 30 = .ok (.iload_n 1, 1) := by decide +kernel
theorem d_Mo_later_31 : decode b_Mo_later 31 = .ok (.iadd, 1) := by decide +kernel
theorem d_Mo_later_32 : decode b_Mo_later 32 = .ok (.putfield 318, 3) := by decide +kernel
theorem d_Mo_later_35 : decode b_Mo_later 35 = .ok (.aload_n 0, 1) := by decide +kernel
theorem d_Mo_later_36 : decode b_Mo_later 36 = .ok (.getfield 318, 3) := by decide +kernel
theorem d_Mo_later_39 : decode b_Mo_later 39 = .ok (.ireturn, 1) := by decide +kernel
