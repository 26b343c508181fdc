theorem dL_cast_37 : decode cL_cast 37 = .ok (.if_icmp .ge 147, 3) := by decide +kernel
theorem dL_cast_40 : decode cL_cast 40 = .ok (.iload 5, 2) := by decide +kernel
theorem dL_cast_42 : decode cL_cast 42 = .ok (.ifCond .eq 142, 3) := by decide +kernel
theorem dL_cast_45 : decode cL_cast 45 = .ok (.aload_n 0, 1) := by decide +kernel
theorem dL_cast_46 : decode cL_cast 46 = .ok (.iload 6, 2) := by decide +kernel
theorem dL_cast_48 : decode cL_cast 48 = .ok (.iconst 2, 1) := by decide +kernel
theorem dL_cast_49 : decode cL_cast 49 = .ok (.invokevirtual 36, 3) := by decide +kernel
theorem dL_cast_52 : decode cL_cast 52 = .ok (.istore 7, 2) := by decide +kernel
theorem dL_cast_54 : decode cL_cast 54 = .ok (.iload 7, 2) := by decide +kernel
theorem dL_cast_56 : decode cL_cast 56 = .ok (.iconst (-1), 1) := by decide +kernel
theorem dL_cast_57 : decode cL_cast 57 = .ok (.if_icmp .ne 7, 3) := by decide +kernel
theorem dL_cast_60 : decode cL_cast 60 = .ok (.iconst 1, 1) := by decide +kernel
theorem dL_cast_61 : decode cL_cast 61 = .ok (.goto 4, 3) := by decide +kernel
theorem dL_cast_64 : decode cL_cast 64 = .ok (.iconst 0, 1) := by decide +kernel
theorem dL_cast_65 : decode cL_cast 65 = .ok (.iload_n 2, 1) := by decide +kernel
theorem dL_cast_66 : decode cL_cast 66 = .ok (.iconst (-1), 1) := by decide +kernel
theorem dL_cast_67 : decode cL_cast 67 = .ok (.if_icmp .ne 7, 3) := by decide +kernel
theorem dL_cast_70 : decode cL_cast 70 = .ok (.iconst 1, 1) := by decide +kernel
theorem dL_cast_71 : decode cL_cast 71 = .ok (.goto 4, 3) := by decide +kernel
theorem dL_cast_74 : decode cL_cast 74 = .ok (.iconst 0, 1) := by decide +kernel
theorem dL_cast_75 : decode cL_cast 75 = .ok (.if_icmp .ne 7, 3) := by decide +kernel
theorem dL_cast_78 : decode cL_cast 78 = .ok (.iconst 1, 1) := by decide +kernel
theorem dL_cast_79 : decode cL_cast 79 = .ok (.goto 4, 3) := by decide +kernel
theorem dL_cast_82 : decode cL_cast 82 = .ok (.iconst 0, 1) := by decide +kernel
theorem dL_cast_83 : decode cL_cast 83 = .ok (.istore 5, 2) := by decide +kernel
theorem dL_cast_85 : decode cL_cast 85 = .ok (.iload 5, 2) := by decide +kernel
theorem dL_cast_87 : decode cL_cast 87 = .ok (.ifCond .eq 91, 3) := by decide +kernel
theorem dL_cast_90 : decode cL_cast 90 = .ok (.iload 7, 2) := by decide +kernel
theorem dL_cast_92 : decode cL_cast 92 = .ok (.ifCond .lt 86, 3) := by decide +kernel
theorem dL_cast_95 : decode cL_cast 95 = .ok (.iload 4, 2) := by decide +kernel
theorem dL_cast_97 : decode cL_cast 97 = .ok (.iload 7, 2) := by decide +kernel
theorem dL_cast_99 : decode cL_cast 99 = .ok (.ishr, 1) := by decide +kernel
theorem dL_cast_100 : decode cL_cast 100 = .ok (.iconst 1, 1) := by decide +kernel
theorem dL_cast_101 : decode cL_cast 101 = .ok (.iand, 1) := by decide +kernel
theorem dL_cast_102 : decode cL_cast 102 = .ok (.ifCond .ne 52, 3) := by decide +kernel
theorem dL_cast_105 : decode cL_cast 105 = .ok (.aload_n 0, 1) := by decide +kernel
theorem dL_cast_106 : decode cL_cast 106 = .ok (.iload 7, 2) := by decide +kernel
theorem dL_cast_108 : decode cL_cast 108 = .ok (.iconst 3, 1) := by decide +kernel
theorem dL_cast_109 : decode cL_cast 109 = .ok (.invokevirtual 40, 3) := by decide +kernel
theorem dL_cast_112 : decode cL_cast 112 = .ok (.iconst 1, 1) := by decide +kernel
theorem dL_cast_113 : decode cL_cast 113 = .ok (.if_icmp .ne 41, 3) := by decide +kernel
theorem dL_cast_116 : decode cL_cast 116 = .ok (.aload_n 0, 1) := by decide +kernel
theorem dL_cast_117 : decode cL_cast 117 = .ok (.iload 7, 2) := by decide +kernel
theorem dL_cast_119 : decode cL_cast 119 = .ok (.iload 6, 2) := by decide +kernel
theorem dL_cast_121 : decode cL_cast 121 = .ok (.iconst 0, 1) := by decide +kernel
theorem dL_cast_122 : decode cL_cast 122 = .ok (.invokevirtual 43, 3) := by decide +kernel
theorem dL_cast_125 : decode cL_cast 125 = .ok (.ifCond .le 29, 3) := by decide +kernel
theorem dL_cast_128 : decode cL_cast 128 = .ok (.aload_n 0, 1) := by decide +kernel
theorem dL_cast_129 : decode cL_cast 129 = .ok (.iload 7, 2) := by decide +kernel
theorem dL_cast_131 : decode cL_cast 131 = .ok (.iconst 5, 1) := by decide +kernel
