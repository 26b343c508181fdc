set_option maxRecDepth 20000 in
theorem gL_pay_X5_ranked : GoodIn wsL_pay (wsV RL 50 RX5 yX5_ranked wsX5_ranked) := goodIn_app (goodIn_of _ (by decide +kernel)) ggL_pay_X5_ranked
theorem dL_pay_0 : decode cL_pay 0 = .ok (.iconst 0, 1) := by decide +kernel
theorem dL_pay_1 : decode cL_pay 1 = .ok (.istore_n 1, 1) := by decide +kernel
theorem dL_pay_2 : decode cL_pay 2 = .ok (.iconst 0, 1) := by decide +kernel
theorem dL_pay_3 : decode cL_pay 3 = .ok (.istore_n 2, 1) := by decide +kernel
theorem dL_pay_4 : decode cL_pay 4 = .ok (.iconst 0, 1) := by decide +kernel
theorem dL_pay_5 : decode cL_pay 5 = .ok (.istore_n 3, 1) := by decide +kernel
theorem dL_pay_6 : decode cL_pay 6 = .ok (.iconst (-1), 1) := by decide +kernel
theorem dL_pay_7 : decode cL_pay 7 = .ok (.istore 4, 2) := by decide +kernel
theorem dL_pay_9 : decode cL_pay 9 = .ok (.iconst 1, 1) := by decide +kernel
theorem dL_pay_10 : decode cL_pay 10 = .ok (.istore 5, 2) := by decide +kernel
theorem dL_pay_12 : decode cL_pay 12 = .ok (.iconst 0, 1) := by decide +kernel
theorem dL_pay_13 : decode cL_pay 13 = .ok (.istore 6, 2) := by decide +kernel
theorem dL_pay_15 : decode cL_pay 15 = .ok (.iload 6, 2) := by decide +kernel
theorem dL_pay_17 : decode cL_pay 17 = .ok (.aload_n 0, 1) := by decide +kernel
theorem dL_pay_18 : decode cL_pay 18 = .ok (.iconst 1, 1) := by decide +kernel
theorem dL_pay_19 : decode cL_pay 19 = .ok (.invokevirtual 30, 3) := by decide +kernel
theorem dL_pay_22 : decode cL_pay 22 = .ok (.if_icmp .ge 291, 3) := by decide +kernel
theorem dL_pay_25 : decode cL_pay 25 = .ok (.iload 5, 2) := by decide +kernel
theorem dL_pay_27 : decode cL_pay 27 = .ok (.ifCond .eq 286, 3) := by decide +kernel
theorem dL_pay_30 : decode cL_pay 30 = .ok (.iload_n 1, 1) := by decide +kernel
theorem dL_pay_31 : decode cL_pay 31 = .ok (.aload_n 0, 1) := by decide +kernel
theorem dL_pay_32 : decode cL_pay 32 = .ok (.iload 6, 2) := by decide +kernel
theorem dL_pay_34 : decode cL_pay 34 = .ok (.iconst 0, 1) := by decide +kernel
theorem dL_pay_35 : decode cL_pay 35 = .ok (.invokevirtual 40, 3) := by decide +kernel
theorem dL_pay_38 : decode cL_pay 38 = .ok (.iadd, 1) := by decide +kernel
theorem dL_pay_39 : decode cL_pay 39 = .ok (.istore_n 1, 1) := by decide +kernel
theorem dL_pay_40 : decode cL_pay 40 = .ok (.iload_n 2, 1) := by decide +kernel
theorem dL_pay_41 : decode cL_pay 41 = .ok (.aload_n 0, 1) := by decide +kernel
theorem dL_pay_42 : decode cL_pay 42 = .ok (.iload 6, 2) := by decide +kernel
theorem dL_pay_44 : decode cL_pay 44 = .ok (.iconst 4, 1) := by decide +kernel
theorem dL_pay_45 : decode cL_pay 45 = .ok (.invokevirtual 40, 3) := by decide +kernel
theorem dL_pay_48 : decode cL_pay 48 = .ok (.iadd, 1) := by decide +kernel
theorem dL_pay_49 : decode cL_pay 49 = .ok (.istore_n 2, 1) := by decide +kernel
theorem dL_pay_50 : decode cL_pay 50 = .ok (.iconst 0, 1) := by decide +kernel
theorem dL_pay_51 : decode cL_pay 51 = .ok (.istore 7, 2) := by decide +kernel
theorem dL_pay_53 : decode cL_pay 53 = .ok (.iload 7, 2) := by decide +kernel
theorem dL_pay_55 : decode cL_pay 55 = .ok (.aload_n 0, 1) := by decide +kernel
theorem dL_pay_56 : decode cL_pay 56 = .ok (.iconst 0, 1) := by decide +kernel
theorem dL_pay_57 : decode cL_pay 57 = .ok (.invokevirtual 30, 3) := by decide +kernel
theorem dL_pay_60 : decode cL_pay 60 = .ok (.if_icmp .ge 107, 3) := by decide +kernel
theorem dL_pay_63 : decode cL_pay 63 = .ok (.iload 5, 2) := by decide +kernel
theorem dL_pay_65 : decode cL_pay 65 = .ok (.ifCond .eq 102, 3) := by decide +kernel
theorem dL_pay_68 : decode cL_pay 68 = .ok (.iload_n 3, 1) := by decide +kernel
theorem dL_pay_69 : decode cL_pay 69 = .ok (.aload_n 0, 1) := by decide +kernel
theorem dL_pay_70 : decode cL_pay 70 = .ok (.iload 6, 2) := by decide +kernel
theorem dL_pay_72 : decode cL_pay 72 = .ok (.iload 7, 2) := by decide +kernel
theorem dL_pay_74 : decode cL_pay 74 = .ok (.iconst 1, 1) := by decide +kernel
theorem dL_pay_75 : decode cL_pay 75 = .ok (.invokevirtual 43, 3) := by decide +kernel
theorem dL_pay_78 : decode cL_pay 78 = .ok (.iadd, 1) := by decide +kernel
