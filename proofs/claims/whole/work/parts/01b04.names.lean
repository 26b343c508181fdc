theorem dX3_firstError_44 : decode cX3_firstError 44 = .ok (.aload_n 0, 1) := by decide +kernel
theorem dX3_firstError_45 : decode cX3_firstError 45 = .ok (.iload_n 1, 1) := by decide +kernel
theorem dX3_firstError_46 : decode cX3_firstError 46 = .ok (.invokevirtual 27, 3) := by decide +kernel
theorem dX3_firstError_49 : decode cX3_firstError 49 = .ok (.istore_n 2, 1) := by decide +kernel
theorem dX3_firstError_50 : decode cX3_firstError 50 = .ok (.iload_n 2, 1) := by decide +kernel
theorem dX3_firstError_51 : decode cX3_firstError 51 = .ok (.iconst (-1), 1) := by decide +kernel
theorem dX3_firstError_52 : decode cX3_firstError 52 = .ok (.if_icmp .eq 5, 3) := by decide +kernel
theorem dX3_firstError_55 : decode cX3_firstError 55 = .ok (.iload_n 2, 1) := by decide +kernel
theorem dX3_firstError_56 : decode cX3_firstError 56 = .ok (.ireturn, 1) := by decide +kernel
theorem dX3_firstError_57 : decode cX3_firstError 57 = .ok (.iload_n 1, 1) := by decide +kernel
theorem dX3_firstError_58 : decode cX3_firstError 58 = .ok (.iconst 1, 1) := by decide +kernel
theorem dX3_firstError_59 : decode cX3_firstError 59 = .ok (.aload_n 0, 1) := by decide +kernel
theorem dX3_firstError_60 : decode cX3_firstError 60 = .ok (.getfield 9, 3) := by decide +kernel
theorem dX3_firstError_63 : decode cX3_firstError 63 = .ok (.iload_n 1, 1) := by decide +kernel
theorem dX3_firstError_64 : decode cX3_firstError 64 = .ok (.caload, 1) := by decide +kernel
theorem dX3_firstError_65 : decode cX3_firstError 65 = .ok (.invokestatic 31, 3) := by decide +kernel
theorem dX3_firstError_68 : decode cX3_firstError 68 = .ok (.iadd, 1) := by decide +kernel
theorem dX3_firstError_69 : decode cX3_firstError 69 = .ok (.iadd, 1) := by decide +kernel
theorem dX3_firstError_70 : decode cX3_firstError 70 = .ok (.istore_n 1, 1) := by decide +kernel
theorem dX3_firstError_71 : decode cX3_firstError 71 = .ok (.goto (-49), 3) := by decide +kernel
theorem dX3_firstError_74 : decode cX3_firstError 74 = .ok (.iconst (-1), 1) := by decide +kernel
theorem dX3_firstError_75 : decode cX3_firstError 75 = .ok (.ireturn, 1) := by decide +kernel
set_option maxRecDepth 20000 in
theorem ggX3_errorBehind_X3_digitsBehind : GoodIn wsX3_errorBehind wsX3_digitsBehind := goodIn_r _ [6] (by decide +kernel) (by decide +kernel)
set_option maxRecDepth 20000 in
theorem gX3_errorBehind_X3_digitsBehind : GoodIn wsX3_errorBehind (va_wsS RX3 31 yX3_digitsBehind wsX3_digitsBehind) := goodIn_app (goodIn_of _ (by decide +kernel)) ggX3_errorBehind_X3_digitsBehind
set_option maxRecDepth 20000 in
theorem ggX3_errorBehind_X3_leastDigit : GoodIn wsX3_errorBehind wsX3_leastDigit := goodIn_r _ [9] (by decide +kernel) (by decide +kernel)
set_option maxRecDepth 20000 in
theorem gX3_errorBehind_X3_leastDigit : GoodIn wsX3_errorBehind (va_wsS RX3 35 yX3_leastDigit wsX3_leastDigit) := goodIn_app (goodIn_of _ (by decide +kernel)) ggX3_errorBehind_X3_leastDigit
set_option maxRecDepth 20000 in
theorem ggX3_errorBehind_X3_greatestDigit : GoodIn wsX3_errorBehind wsX3_greatestDigit := goodIn_r _ [12] (by decide +kernel) (by decide +kernel)
set_option maxRecDepth 20000 in
theorem gX3_errorBehind_X3_greatestDigit : GoodIn wsX3_errorBehind (va_wsS RX3 39 yX3_greatestDigit wsX3_greatestDigit) := goodIn_app (goodIn_of _ (by decide +kernel)) ggX3_errorBehind_X3_greatestDigit
theorem dX3_errorBehind_0 : decode cX3_errorBehind 0 = .ok (.iconst 1, 1) := by decide +kernel
theorem dX3_errorBehind_1 : decode cX3_errorBehind 1 = .ok (.istore_n 2, 1) := by decide +kernel
theorem dX3_errorBehind_2 : decode cX3_errorBehind 2 = .ok (.iload_n 2, 1) := by decide +kernel
theorem dX3_errorBehind_3 : decode cX3_errorBehind 3 = .ok (.aload_n 0, 1) := by decide +kernel
theorem dX3_errorBehind_4 : decode cX3_errorBehind 4 = .ok (.getfield 9, 3) := by decide +kernel
theorem dX3_errorBehind_7 : decode cX3_errorBehind 7 = .ok (.iload_n 1, 1) := by decide +kernel
theorem dX3_errorBehind_8 : decode cX3_errorBehind 8 = .ok (.caload, 1) := by decide +kernel
theorem dX3_errorBehind_9 : decode cX3_errorBehind 9 = .ok (.invokestatic 31, 3) := by decide +kernel
theorem dX3_errorBehind_12 : decode cX3_errorBehind 12 = .ok (.if_icmp .gt 65, 3) := by decide +kernel
theorem dX3_errorBehind_15 : decode cX3_errorBehind 15 = .ok (.iload_n 1, 1) := by decide +kernel
theorem dX3_errorBehind_16 : decode cX3_errorBehind 16 = .ok (.iload_n 2, 1) := by decide +kernel
theorem dX3_errorBehind_17 : decode cX3_errorBehind 17 = .ok (.iadd, 1) := by decide +kernel
theorem dX3_errorBehind_18 : decode cX3_errorBehind 18 = .ok (.aload_n 0, 1) := by decide +kernel
theorem dX3_errorBehind_19 : decode cX3_errorBehind 19 = .ok (.getfield 15, 3) := by decide +kernel
theorem dX3_errorBehind_22 : decode cX3_errorBehind 22 = .ok (.if_icmp .lt 8, 3) := by decide +kernel
theorem dX3_errorBehind_25 : decode cX3_errorBehind 25 = .ok (.aload_n 0, 1) := by decide +kernel
theorem dX3_errorBehind_26 : decode cX3_errorBehind 26 = .ok (.getfield 15, 3) := by decide +kernel
theorem dX3_errorBehind_29 : decode cX3_errorBehind 29 = .ok (.ireturn, 1) := by decide +kernel
theorem dX3_errorBehind_30 : decode cX3_errorBehind 30 = .ok (.aload_n 0, 1) := by decide +kernel
theorem dX3_errorBehind_31 : decode cX3_errorBehind 31 = .ok (.getfield 9, 3) := by decide +kernel
theorem dX3_errorBehind_34 : decode cX3_errorBehind 34 = .ok (.iload_n 1, 1) := by decide +kernel
theorem dX3_errorBehind_35 : decode cX3_errorBehind 35 = .ok (.iload_n 2, 1) := by decide +kernel
theorem dX3_errorBehind_36 : decode cX3_errorBehind 36 = .ok (.iadd, 1) := by decide +kernel
theorem dX3_errorBehind_37 : decode cX3_errorBehind 37 = .ok (.caload, 1) := by decide +kernel
theorem dX3_errorBehind_38 : decode cX3_errorBehind 38 = .ok (.istore_n 3, 1) := by decide +kernel
theorem dX3_errorBehind_39 : decode cX3_errorBehind 39 = .ok (.iload_n 3, 1) := by decide +kernel
theorem dX3_errorBehind_40 : decode cX3_errorBehind 40 = .ok (.aload_n 0, 1) := by decide +kernel
theorem dX3_errorBehind_41 : decode cX3_errorBehind 41 = .ok (.getfield 9, 3) := by decide +kernel
theorem dX3_errorBehind_44 : decode cX3_errorBehind 44 = .ok (.iload_n 1, 1) := by decide +kernel
theorem dX3_errorBehind_45 : decode cX3_errorBehind 45 = .ok (.caload, 1) := by decide +kernel
theorem dX3_errorBehind_46 : decode cX3_errorBehind 46 = .ok (.iload_n 2, 1) := by decide +kernel
theorem dX3_errorBehind_47 : decode cX3_errorBehind 47 = .ok (.invokestatic 35, 3) := by decide +kernel
theorem dX3_errorBehind_50 : decode cX3_errorBehind 50 = .ok (.if_icmp .lt 17, 3) := by decide +kernel
theorem dX3_errorBehind_53 : decode cX3_errorBehind 53 = .ok (.iload_n 3, 1) := by decide +kernel
theorem dX3_errorBehind_54 : decode cX3_errorBehind 54 = .ok (.aload_n 0, 1) := by decide +kernel
theorem dX3_errorBehind_55 : decode cX3_errorBehind 55 = .ok (.getfield 9, 3) := by decide +kernel
theorem dX3_errorBehind_58 : decode cX3_errorBehind 58 = .ok (.iload_n 1, 1) := by decide +kernel
theorem dX3_errorBehind_59 : decode cX3_errorBehind 59 = .ok (.caload, 1) := by decide +kernel
theorem dX3_errorBehind_60 : decode cX3_errorBehind 60 = .ok (.iload_n 2, 1) := by decide +kernel
theorem dX3_errorBehind_61 : decode cX3_errorBehind 61 = .ok (.invokestatic 39, 3) := by decide +kernel
theorem dX3_errorBehind_64 : decode cX3_errorBehind 64 = .ok (.if_icmp .le 7, 3) := by decide +kernel
theorem dX3_errorBehind_67 : decode cX3_errorBehind 67 = .ok (.iload_n 1, 1) := by decide +kernel
theorem dX3_errorBehind_68 : decode cX3_errorBehind 68 = .ok (.iload_n 2, 1) := by decide +kernel
theorem dX3_errorBehind_69 : decode cX3_errorBehind 69 = .ok (.iadd, 1) := by decide +kernel
theorem dX3_errorBehind_70 : decode cX3_errorBehind 70 = .ok (.ireturn, 1) := by decide +kernel
theorem dX3_errorBehind_71 : decode cX3_errorBehind 71 = .ok (.iinc 2 1, 3) := by decide +kernel
theorem dX3_errorBehind_74 : decode cX3_errorBehind 74 = .ok (.goto (-72), 3) := by decide +kernel
theorem dX3_errorBehind_77 : decode cX3_errorBehind 77 = .ok (.iconst (-1), 1) := by decide +kernel
theorem dX3_errorBehind_78 : decode cX3_errorBehind 78 = .ok (.ireturn, 1) := by decide +kernel
set_option maxRecDepth 20000 in
theorem ggX3_isCommand_X3_digitsBehind : GoodIn wsX3_isCommand wsX3_digitsBehind := goodIn_r _ [4] (by decide +kernel) (by decide +kernel)
set_option maxRecDepth 20000 in
theorem gX3_isCommand_X3_digitsBehind : GoodIn wsX3_isCommand (va_wsS RX3 31 yX3_digitsBehind wsX3_digitsBehind) := goodIn_app (goodIn_of _ (by decide +kernel)) ggX3_isCommand_X3_digitsBehind
theorem dX3_isCommand_0 : decode cX3_isCommand 0 = .ok (.iload_n 0, 1) := by decide +kernel
theorem dX3_isCommand_1 : decode cX3_isCommand 1 = .ok (.bipush 112, 2) := by decide +kernel
theorem dX3_isCommand_3 : decode cX3_isCommand 3 = .ok (.if_icmp .eq 16, 3) := by decide +kernel
theorem dX3_isCommand_6 : decode cX3_isCommand 6 = .ok (.iload_n 0, 1) := by decide +kernel
theorem dX3_isCommand_7 : decode cX3_isCommand 7 = .ok (.bipush 103, 2) := by decide +kernel
theorem dX3_isCommand_9 : decode cX3_isCommand 9 = .ok (.if_icmp .eq 10, 3) := by decide +kernel
theorem dX3_isCommand_12 : decode cX3_isCommand 12 = .ok (.iload_n 0, 1) := by decide +kernel
theorem dX3_isCommand_13 : decode cX3_isCommand 13 = .ok (.invokestatic 31, 3) := by decide +kernel
theorem dX3_isCommand_16 : decode cX3_isCommand 16 = .ok (.ifCond .le 7, 3) := by decide +kernel
theorem dX3_isCommand_19 : decode cX3_isCommand 19 = .ok (.iconst 1, 1) := by decide +kernel
theorem dX3_isCommand_20 : decode cX3_isCommand 20 = .ok (.goto 4, 3) := by decide +kernel
theorem dX3_isCommand_23 : decode cX3_isCommand 23 = .ok (.iconst 0, 1) := by decide +kernel
theorem dX3_isCommand_24 : decode cX3_isCommand 24 = .ok (.ireturn, 1) := by decide +kernel
theorem dX3_digitsBehind_0 : decode cX3_digitsBehind 0 = .ok (.iload_n 0, 1) := by decide +kernel
theorem dX3_digitsBehind_1 : decode cX3_digitsBehind 1 = .ok (.lookupswitch 57 #[(97, 53), (100, 51), (102, 53), (114, 51), (121, 55)], 51) := by decide +kernel
theorem dX3_digitsBehind_52 : decode cX3_digitsBehind 52 = .ok (.iconst 1, 1) := by decide +kernel
theorem dX3_digitsBehind_53 : decode cX3_digitsBehind 53 = .ok (.ireturn, 1) := by decide +kernel
theorem dX3_digitsBehind_54 : decode cX3_digitsBehind 54 = .ok (.iconst 2, 1) := by decide +kernel
theorem dX3_digitsBehind_55 : decode cX3_digitsBehind 55 = .ok (.ireturn, 1) := by decide +kernel
theorem dX3_digitsBehind_56 : decode cX3_digitsBehind 56 = .ok (.iconst 3, 1) := by decide +kernel
theorem dX3_digitsBehind_57 : decode cX3_digitsBehind 57 = .ok (.ireturn, 1) := by decide +kernel
theorem dX3_digitsBehind_58 : decode cX3_digitsBehind 58 = .ok (.iconst 0, 1) := by decide +kernel
theorem dX3_digitsBehind_59 : decode cX3_digitsBehind 59 = .ok (.ireturn, 1) := by decide +kernel
theorem dX3_leastDigit_0 : decode cX3_leastDigit 0 = .ok (.iload_n 0, 1) := by decide +kernel
theorem dX3_leastDigit_1 : decode cX3_leastDigit 1 = .ok (.bipush 114, 2) := by decide +kernel
theorem dX3_leastDigit_3 : decode cX3_leastDigit 3 = .ok (.if_icmp .eq 20, 3) := by decide +kernel
theorem dX3_leastDigit_6 : decode cX3_leastDigit 6 = .ok (.iload_n 0, 1) := by decide +kernel
theorem dX3_leastDigit_7 : decode cX3_leastDigit 7 = .ok (.bipush 100, 2) := by decide +kernel
theorem dX3_leastDigit_9 : decode cX3_leastDigit 9 = .ok (.if_icmp .eq 14, 3) := by decide +kernel
theorem dX3_leastDigit_12 : decode cX3_leastDigit 12 = .ok (.iload_n 0, 1) := by decide +kernel
theorem dX3_leastDigit_13 : decode cX3_leastDigit 13 = .ok (.bipush 97, 2) := by decide +kernel
theorem dX3_leastDigit_15 : decode cX3_leastDigit 15 = .ok (.if_icmp .ne 12, 3) := by decide +kernel
theorem dX3_leastDigit_18 : decode cX3_leastDigit 18 = .ok (.iload_n 1, 1) := by decide +kernel
theorem dX3_leastDigit_19 : decode cX3_leastDigit 19 = .ok (.iconst 2, 1) := by decide +kernel
theorem dX3_leastDigit_20 : decode cX3_leastDigit 20 = .ok (.if_icmp .ne 7, 3) := by decide +kernel
theorem dX3_leastDigit_23 : decode cX3_leastDigit 23 = .ok (.iconst 1, 1) := by decide +kernel
theorem dX3_leastDigit_24 : decode cX3_leastDigit 24 = .ok (.goto 4, 3) := by decide +kernel
theorem dX3_leastDigit_27 : decode cX3_leastDigit 27 = .ok (.iconst 0, 1) := by decide +kernel
theorem dX3_leastDigit_28 : decode cX3_leastDigit 28 = .ok (.istore_n 2, 1) := by decide +kernel
theorem dX3_leastDigit_29 : decode cX3_leastDigit 29 = .ok (.iload_n 2, 1) := by decide +kernel
theorem dX3_leastDigit_30 : decode cX3_leastDigit 30 = .ok (.ifCond .eq 8, 3) := by decide +kernel
theorem dX3_leastDigit_33 : decode cX3_leastDigit 33 = .ok (.bipush 49, 2) := by decide +kernel
theorem dX3_leastDigit_35 : decode cX3_leastDigit 35 = .ok (.goto 5, 3) := by decide +kernel
theorem dX3_leastDigit_38 : decode cX3_leastDigit 38 = .ok (.bipush 48, 2) := by decide +kernel
theorem dX3_leastDigit_40 : decode cX3_leastDigit 40 = .ok (.ireturn, 1) := by decide +kernel
theorem dX3_greatestDigit_0 : decode cX3_greatestDigit 0 = .ok (.iload_n 0, 1) := by decide +kernel
theorem dX3_greatestDigit_1 : decode cX3_greatestDigit 1 = .ok (.bipush 121, 2) := by decide +kernel
theorem dX3_greatestDigit_3 : decode cX3_greatestDigit 3 = .ok (.if_icmp .ne 8, 3) := by decide +kernel
theorem dX3_greatestDigit_6 : decode cX3_greatestDigit 6 = .ok (.iload_n 1, 1) := by decide +kernel
theorem dX3_greatestDigit_7 : decode cX3_greatestDigit 7 = .ok (.iconst 2, 1) := by decide +kernel
theorem dX3_greatestDigit_8 : decode cX3_greatestDigit 8 = .ok (.if_icmp .eq 14, 3) := by decide +kernel
theorem dX3_greatestDigit_11 : decode cX3_greatestDigit 11 = .ok (.iload_n 0, 1) := by decide +kernel
theorem dX3_greatestDigit_12 : decode cX3_greatestDigit 12 = .ok (.bipush 102, 2) := by decide +kernel
theorem dX3_greatestDigit_14 : decode cX3_greatestDigit 14 = .ok (.if_icmp .ne 12, 3) := by decide +kernel
theorem dX3_greatestDigit_17 : decode cX3_greatestDigit 17 = .ok (.iload_n 1, 1) := by decide +kernel
theorem dX3_greatestDigit_18 : decode cX3_greatestDigit 18 = .ok (.iconst 1, 1) := by decide +kernel
theorem dX3_greatestDigit_19 : decode cX3_greatestDigit 19 = .ok (.if_icmp .ne 7, 3) := by decide +kernel
theorem dX3_greatestDigit_22 : decode cX3_greatestDigit 22 = .ok (.iconst 1, 1) := by decide +kernel
theorem dX3_greatestDigit_23 : decode cX3_greatestDigit 23 = .ok (.goto 4, 3) := by decide +kernel
theorem dX3_greatestDigit_26 : decode cX3_greatestDigit 26 = .ok (.iconst 0, 1) := by decide +kernel
theorem dX3_greatestDigit_27 : decode cX3_greatestDigit 27 = .ok (.istore_n 2, 1) := by decide +kernel
theorem dX3_greatestDigit_28 : decode cX3_greatestDigit 28 = .ok (.iload_n 2, 1) := by decide +kernel
theorem dX3_greatestDigit_29 : decode cX3_greatestDigit 29 = .ok (.ifCond .eq 8, 3) := by decide +kernel
theorem dX3_greatestDigit_32 : decode cX3_greatestDigit 32 = .ok (.bipush 53, 2) := by decide +kernel
theorem dX3_greatestDigit_34 : decode cX3_greatestDigit 34 = .ok (.goto 5, 3) := by decide +kernel
theorem dX3_greatestDigit_37 : decode cX3_greatestDigit 37 = .ok (.bipush 57, 2) := by decide +kernel
theorem dX3_greatestDigit_39 : decode cX3_greatestDigit 39 = .ok (.ireturn, 1) := by decide +kernel
set_option maxRecDepth 20000 in
theorem ggX3_doCommands_X3_isDone : GoodIn wsX3_doCommands wsX3_isDone := goodIn_r _ [7, 2, 8, 9, 10, 6, 11, 1, 12, 13, 14, 15, 16, 17, 18, 19, 20, 21, 22, 23, 24, 25, 26, 27, 28, 29, 30, 31, 32, 33, 34, 35, 36, 37, 38, 39, 40, 41, 42, 43, 44, 45, 46, 47, 48, 49, 50, 51, 52, 53, 54, 55, 56, 57, 58, 59, 60, 61, 62, 63, 64, 65, 66, 67, 68, 69, 70, 71, 72, 73, 74, 75, 76, 77, 78, 79, 80, 81, 82, 83, 84, 85, 86, 87, 88, 89, 90, 91, 92, 93, 94, 95, 96, 97, 98, 99, 100, 101, 102, 103, 104, 105, 106, 107, 108, 109, 110, 111, 112, 113, 114, 115, 116, 117, 118, 119, 120, 121, 122, 123, 124, 125, 126, 127, 128, 129, 130, 131, 132, 133, 134, 135, 136, 137, 138, 139, 140, 141, 142, 143, 144, 145, 146, 147, 148, 149, 150, 151, 152, 153, 157, 158, 159, 160, 161, 162, 163, 164, 165, 166, 167, 168, 169, 170, 171, 172, 173, 174, 175, 176, 177, 178, 179, 180, 181] (by decide +kernel) (by decide +kernel)
set_option maxRecDepth 20000 in
theorem gX3_doCommands_X3_isDone : GoodIn wsX3_doCommands (wsV RX3 42 RX3 yX3_isDone wsX3_isDone) := goodIn_app (goodIn_of _ (by decide +kernel)) ggX3_doCommands_X3_isDone
set_option maxRecDepth 20000 in
theorem ggX3_doCommands_X3_digitsBehind : GoodIn wsX3_doCommands wsX3_digitsBehind := goodIn_r _ [156] (by decide +kernel) (by decide +kernel)
set_option maxRecDepth 20000 in
theorem gX3_doCommands_X3_digitsBehind : GoodIn wsX3_doCommands (va_wsS RX3 31 yX3_digitsBehind wsX3_digitsBehind) := goodIn_app (goodIn_of _ (by decide +kernel)) ggX3_doCommands_X3_digitsBehind
theorem dX3_doCommands_0 : decode cX3_doCommands 0 = .ok (.iconst 0, 1) := by decide +kernel
theorem dX3_doCommands_1 : decode cX3_doCommands 1 = .ok (.istore_n 3, 1) := by decide +kernel
theorem dX3_doCommands_2 : decode cX3_doCommands 2 = .ok (.iconst 1, 1) := by decide +kernel
theorem dX3_doCommands_3 : decode cX3_doCommands 3 = .ok (.istore 4, 2) := by decide +kernel
theorem dX3_doCommands_5 : decode cX3_doCommands 5 = .ok (.iload 4, 2) := by decide +kernel
theorem dX3_doCommands_7 : decode cX3_doCommands 7 = .ok (.aload_n 0, 1) := by decide +kernel
theorem dX3_doCommands_8 : decode cX3_doCommands 8 = .ok (.getfield 15, 3) := by decide +kernel
theorem dX3_doCommands_11 : decode cX3_doCommands 11 = .ok (.if_icmp .ge 37, 3) := by decide +kernel
theorem dX3_doCommands_14 : decode cX3_doCommands 14 = .ok (.aload_n 0, 1) := by decide +kernel
theorem dX3_doCommands_15 : decode cX3_doCommands 15 = .ok (.iload 4, 2) := by decide +kernel
theorem dX3_doCommands_17 : decode cX3_doCommands 17 = .ok (.aload_n 1, 1) := by decide +kernel
theorem dX3_doCommands_18 : decode cX3_doCommands 18 = .ok (.aload_n 2, 1) := by decide +kernel
theorem dX3_doCommands_19 : decode cX3_doCommands 19 = .ok (.invokevirtual 42, 3) := by decide +kernel
theorem dX3_doCommands_22 : decode cX3_doCommands 22 = .ok (.ifCond .ne 6, 3) := by decide +kernel
theorem dX3_doCommands_25 : decode cX3_doCommands 25 = .ok (.iinc 3 1, 3) := by decide +kernel
theorem dX3_doCommands_28 : decode cX3_doCommands 28 = .ok (.iload 4, 2) := by decide +kernel
theorem dX3_doCommands_30 : decode cX3_doCommands 30 = .ok (.iconst 1, 1) := by decide +kernel
theorem dX3_doCommands_31 : decode cX3_doCommands 31 = .ok (.aload_n 0, 1) := by decide +kernel
theorem dX3_doCommands_32 : decode cX3_doCommands 32 = .ok (.getfield 9, 3) := by decide +kernel
theorem dX3_doCommands_35 : decode cX3_doCommands 35 = .ok (.iload 4, 2) := by decide +kernel
theorem dX3_doCommands_37 : decode cX3_doCommands 37 = .ok (.caload, 1) := by decide +kernel
theorem dX3_doCommands_38 : decode cX3_doCommands 38 = .ok (.invokestatic 31, 3) := by decide +kernel
theorem dX3_doCommands_41 : decode cX3_doCommands 41 = .ok (.iadd, 1) := by decide +kernel
theorem dX3_doCommands_42 : decode cX3_doCommands 42 = .ok (.iadd, 1) := by decide +kernel
theorem dX3_doCommands_43 : decode cX3_doCommands 43 = .ok (.istore 4, 2) := by decide +kernel
theorem dX3_doCommands_45 : decode cX3_doCommands 45 = .ok (.goto (-40), 3) := by decide +kernel
theorem dX3_doCommands_48 : decode cX3_doCommands 48 = .ok (.iload_n 3, 1) := by decide +kernel
theorem dX3_doCommands_49 : decode cX3_doCommands 49 = .ok (.ireturn, 1) := by decide +kernel
set_option maxRecDepth 20000 in
theorem ggX3_isDone_X3_digit : GoodIn wsX3_isDone wsX3_digit := goodIn_r _ [6, 7, 1, 150, 151] (by decide +kernel) (by decide +kernel)
set_option maxRecDepth 20000 in
theorem gX3_isDone_X3_digit : GoodIn wsX3_isDone (wsV RX3 46 RX3 yX3_digit wsX3_digit) := goodIn_app (goodIn_of _ (by decide +kernel)) ggX3_isDone_X3_digit
set_option maxRecDepth 20000 in
theorem ggX3_isDone_X2_putRole : GoodIn wsX3_isDone wsX2_putRole := goodIn_r _ [12, 13, 14, 15, 16, 17, 11, 18, 19, 152, 153, 154, 155, 156, 157, 158, 159, 160, 161, 162, 163, 164, 165, 166, 167, 168] (by decide +kernel) (by decide +kernel)
set_option maxRecDepth 20000 in
theorem gX3_isDone_X2_putRole : GoodIn wsX3_isDone (wsV RX3 49 RX2 yX2_putRole wsX2_putRole) := goodIn_app (goodIn_of _ (by decide +kernel)) ggX3_isDone_X2_putRole
set_option maxRecDepth 20000 in
theorem ggX3_isDone_X2_putPlayer : GoodIn wsX3_isDone wsX2_putPlayer := goodIn_r _ [23, 24, 25, 26, 27, 11, 28, 152, 153, 154, 155, 156, 157, 158, 159, 160, 161, 162, 163, 164, 165, 166, 167, 168] (by decide +kernel) (by decide +kernel)
set_option maxRecDepth 20000 in
theorem gX3_isDone_X2_putPlayer : GoodIn wsX3_isDone (wsV RX3 55 RX2 yX2_putPlayer wsX2_putPlayer) := goodIn_app (goodIn_of _ (by decide +kernel)) ggX3_isDone_X2_putPlayer
set_option maxRecDepth 20000 in
theorem ggX3_isDone_X2_putDegree : GoodIn wsX3_isDone wsX2_putDegree := goodIn_r _ [32, 33, 34, 35, 36, 11, 37, 24, 38, 39, 40, 41, 14, 42, 43, 44, 152, 153, 154, 155, 156, 157, 158, 159, 160, 161, 162, 163, 164, 165, 166, 167, 168] (by decide +kernel) (by decide +kernel)
set_option maxRecDepth 20000 in
theorem gX3_isDone_X2_putDegree : GoodIn wsX3_isDone (wsV RX3 58 RX2 yX2_putDegree wsX2_putDegree) := goodIn_app (goodIn_of _ (by decide +kernel)) ggX3_isDone_X2_putDegree
set_option maxRecDepth 20000 in
theorem ggX3_isDone_X2_putFirst : GoodIn wsX3_isDone wsX2_putFirst := goodIn_r _ [48, 49, 38, 39, 40, 11, 41, 14, 34, 35, 36, 37, 24, 152, 153, 154, 155, 156, 157, 158, 159, 160, 161, 162, 163, 164, 165, 166, 167, 168] (by decide +kernel) (by decide +kernel)
set_option maxRecDepth 20000 in
theorem gX3_isDone_X2_putFirst : GoodIn wsX3_isDone (wsV RX3 62 RX2 yX2_putFirst wsX2_putFirst) := goodIn_app (goodIn_of _ (by decide +kernel)) ggX3_isDone_X2_putFirst
set_option maxRecDepth 20000 in
theorem ggX3_isDone_X2_sendAway : GoodIn wsX3_isDone wsX2_sendAway := goodIn_r _ [53, 54, 55, 34, 35, 36, 11, 37, 24, 152, 153, 154, 155, 156, 157, 158, 159, 160, 161, 162, 163, 164, 165, 166, 167, 168] (by decide +kernel) (by decide +kernel)
set_option maxRecDepth 20000 in
theorem gX3_isDone_X2_sendAway : GoodIn wsX3_isDone (wsV RX3 66 RX2 yX2_sendAway wsX2_sendAway) := goodIn_app (goodIn_of _ (by decide +kernel)) ggX3_isDone_X2_sendAway
set_option maxRecDepth 20000 in
theorem ggX3_isDone_X2_passDays : GoodIn wsX3_isDone wsX2_passDays := goodIn_r _ [59, 60, 55, 19, 61, 62, 11, 63, 152, 153, 154, 155, 156, 157, 158, 159, 160, 161, 162, 163, 164, 165, 166, 167, 168] (by decide +kernel) (by decide +kernel)
set_option maxRecDepth 20000 in
theorem gX3_isDone_X2_passDays : GoodIn wsX3_isDone (wsV RX3 69 RX2 yX2_passDays wsX2_passDays) := goodIn_app (goodIn_of _ (by decide +kernel)) ggX3_isDone_X2_passDays
set_option maxRecDepth 20000 in
theorem ggX3_isDone_X2_roleCount : GoodIn wsX3_isDone wsX2_roleCount := goodIn_r _ [67, 14, 152, 153, 154, 155, 156, 157, 158, 159, 160, 161, 162, 163, 164, 165, 166, 167, 168] (by decide +kernel) (by decide +kernel)
set_option maxRecDepth 20000 in
theorem gX3_isDone_X2_roleCount : GoodIn wsX3_isDone (wsV RX3 72 RX2 yX2_roleCount wsX2_roleCount) := goodIn_app (goodIn_of _ (by decide +kernel)) ggX3_isDone_X2_roleCount
set_option maxRecDepth 20000 in
theorem ggX3_isDone_X2_playDay : GoodIn wsX3_isDone wsX2_playDay := goodIn_r _ [71, 72, 24, 60, 55, 19, 73, 74, 75, 11, 76, 77, 78, 79, 80, 54, 81, 82, 83, 84, 85, 86, 87, 88, 89, 90, 91, 92, 65, 66, 67, 14, 93, 94, 95, 96, 97, 98, 99, 100, 101, 102, 103, 33, 13, 49, 42, 43, 44, 104, 105, 106, 107, 108, 109, 110, 111, 112, 113, 114, 115, 116, 117, 118, 119, 120, 121, 122, 123, 124, 125, 126, 127, 128, 129, 130, 131, 132, 133, 134, 135, 136, 34, 35, 36, 37, 137, 138, 139, 140, 141, 142, 143, 144, 145, 146, 147, 148, 149, 152, 153, 154, 155, 156, 157, 158, 159, 160, 161, 162, 163, 164, 165, 166, 167, 168, 169, 170, 171, 172, 173, 174] (by decide +kernel) (by decide +kernel)
set_option maxRecDepth 20000 in
theorem gX3_isDone_X2_playDay : GoodIn wsX3_isDone (wsV RX3 76 RX2 yX2_playDay wsX2_playDay) := goodIn_app (goodIn_of _ (by decide +kernel)) ggX3_isDone_X2_playDay
theorem dX3_isDone_0 : decode cX3_isDone 0 = .ok (.aload_n 0, 1) := by decide +kernel
theorem dX3_isDone_1 : decode cX3_isDone 1 = .ok (.getfield 9, 3) := by decide +kernel
theorem dX3_isDone_4 : decode cX3_isDone 4 = .ok (.iload_n 1, 1) := by decide +kernel
theorem dX3_isDone_5 : decode cX3_isDone 5 = .ok (.caload, 1) := by decide +kernel
theorem dX3_isDone_6 : decode cX3_isDone 6 = .ok (.lookupswitch 151 #[(97, 120), (100, 139), (102, 101), (112, 70), (114, 58), (121, 75)], 58) := by decide +kernel
theorem dX3_isDone_64 : decode cX3_isDone 64 = .ok (.aload_n 2, 1) := by decide +kernel
theorem dX3_isDone_65 : decode cX3_isDone 65 = .ok (.aload_n 0, 1) := by decide +kernel
theorem dX3_isDone_66 : decode cX3_isDone 66 = .ok (.iload_n 1, 1) := by decide +kernel
theorem dX3_isDone_67 : decode cX3_isDone 67 = .ok (.iconst 1, 1) := by decide +kernel
theorem dX3_isDone_68 : decode cX3_isDone 68 = .ok (.iadd, 1) := by decide +kernel
theorem dX3_isDone_69 : decode cX3_isDone 69 = .ok (.invokevirtual 46, 3) := by decide +kernel
theorem dX3_isDone_72 : decode cX3_isDone 72 = .ok (.invokevirtual 49, 3) := by decide +kernel
theorem dX3_isDone_75 : decode cX3_isDone 75 = .ok (.ireturn, 1) := by decide +kernel
theorem dX3_isDone_76 : decode cX3_isDone 76 = .ok (.aload_n 2, 1) := by decide +kernel
theorem dX3_isDone_77 : decode cX3_isDone 77 = .ok (.invokevirtual 55, 3) := by decide +kernel
theorem dX3_isDone_80 : decode cX3_isDone 80 = .ok (.ireturn, 1) := by decide +kernel
theorem dX3_isDone_81 : decode cX3_isDone 81 = .ok (.aload_n 2, 1) := by decide +kernel
theorem dX3_isDone_82 : decode cX3_isDone 82 = .ok (.aload_n 0, 1) := by decide +kernel
theorem dX3_isDone_83 : decode cX3_isDone 83 = .ok (.iload_n 1, 1) := by decide +kernel
theorem dX3_isDone_84 : decode cX3_isDone 84 = .ok (.iconst 1, 1) := by decide +kernel
theorem dX3_isDone_85 : decode cX3_isDone 85 = .ok (.iadd, 1) := by decide +kernel
theorem dX3_isDone_86 : decode cX3_isDone 86 = .ok (.invokevirtual 46, 3) := by decide +kernel
theorem dX3_isDone_89 : decode cX3_isDone 89 = .ok (.aload_n 0, 1) := by decide +kernel
theorem dX3_isDone_90 : decode cX3_isDone 90 = .ok (.iload_n 1, 1) := by decide +kernel
theorem dX3_isDone_91 : decode cX3_isDone 91 = .ok (.iconst 2, 1) := by decide +kernel
theorem dX3_isDone_92 : decode cX3_isDone 92 = .ok (.iadd, 1) := by decide +kernel
theorem dX3_isDone_93 : decode cX3_isDone 93 = .ok (.invokevirtual 46, 3) := by decide +kernel
theorem dX3_isDone_96 : decode cX3_isDone 96 = .ok (.aload_n 0, 1) := by decide +kernel
theorem dX3_isDone_97 : decode cX3_isDone 97 = .ok (.iload_n 1, 1) := by decide +kernel
theorem dX3_isDone_98 : decode cX3_isDone 98 = .ok (.iconst 3, 1) := by decide +kernel
theorem dX3_isDone_99 : decode cX3_isDone 99 = .ok (.iadd, 1) := by decide +kernel
theorem dX3_isDone_100 : decode cX3_isDone 100 = .ok (.invokevirtual 46, 3) := by decide +kernel
theorem dX3_isDone_103 : decode cX3_isDone 103 = .ok (.invokevirtual 58, 3) := by decide +kernel
theorem dX3_isDone_106 : decode cX3_isDone 106 = .ok (.ireturn, 1) := by decide +kernel
theorem dX3_isDone_107 : decode cX3_isDone 107 = .ok (.aload_n 2, 1) := by decide +kernel
theorem dX3_isDone_108 : decode cX3_isDone 108 = .ok (.aload_n 0, 1) := by decide +kernel
theorem dX3_isDone_109 : decode cX3_isDone 109 = .ok (.iload_n 1, 1) := by decide +kernel
theorem dX3_isDone_110 : decode cX3_isDone 110 = .ok (.iconst 1, 1) := by decide +kernel
theorem dX3_isDone_111 : decode cX3_isDone 111 = .ok (.iadd, 1) := by decide +kernel
theorem dX3_isDone_112 : decode cX3_isDone 112 = .ok (.invokevirtual 46, 3) := by decide +kernel
theorem dX3_isDone_115 : decode cX3_isDone 115 = .ok (.aload_n 0, 1) := by decide +kernel
theorem dX3_isDone_116 : decode cX3_isDone 116 = .ok (.iload_n 1, 1) := by decide +kernel
theorem dX3_isDone_117 : decode cX3_isDone 117 = .ok (.iconst 2, 1) := by decide +kernel
theorem dX3_isDone_118 : decode cX3_isDone 118 = .ok (.iadd, 1) := by decide +kernel
theorem dX3_isDone_119 : decode cX3_isDone 119 = .ok (.invokevirtual 46, 3) := by decide +kernel
theorem dX3_isDone_122 : decode cX3_isDone 122 = .ok (.invokevirtual 62, 3) := by decide +kernel
theorem dX3_isDone_125 : decode cX3_isDone 125 = .ok (.ireturn, 1) := by decide +kernel
theorem dX3_isDone_126 : decode cX3_isDone 126 = .ok (.aload_n 2, 1) := by decide +kernel
theorem dX3_isDone_127 : decode cX3_isDone 127 = .ok (.aload_n 0, 1) := by decide +kernel
theorem dX3_isDone_128 : decode cX3_isDone 128 = .ok (.iload_n 1, 1) := by decide +kernel
theorem dX3_isDone_129 : decode cX3_isDone 129 = .ok (.iconst 1, 1) := by decide +kernel
theorem dX3_isDone_130 : decode cX3_isDone 130 = .ok (.iadd, 1) := by decide +kernel
theorem dX3_isDone_131 : decode cX3_isDone 131 = .ok (.invokevirtual 46, 3) := by decide +kernel
theorem dX3_isDone_134 : decode cX3_isDone 134 = .ok (.aload_n 0, 1) := by decide +kernel
theorem dX3_isDone_135 : decode cX3_isDone 135 = .ok (.iload_n 1, 1) := by decide +kernel
theorem dX3_isDone_136 : decode cX3_isDone 136 = .ok (.iconst 2, 1) := by decide +kernel
theorem dX3_isDone_137 : decode cX3_isDone 137 = .ok (.iadd, 1) := by decide +kernel
theorem dX3_isDone_138 : decode cX3_isDone 138 = .ok (.invokevirtual 46, 3) := by decide +kernel
theorem dX3_isDone_141 : decode cX3_isDone 141 = .ok (.invokevirtual 66, 3) := by decide +kernel
theorem dX3_isDone_144 : decode cX3_isDone 144 = .ok (.ireturn, 1) := by decide +kernel
theorem dX3_isDone_145 : decode cX3_isDone 145 = .ok (.aload_n 2, 1) := by decide +kernel
theorem dX3_isDone_146 : decode cX3_isDone 146 = .ok (.aload_n 0, 1) := by decide +kernel
theorem dX3_isDone_147 : decode cX3_isDone 147 = .ok (.iload_n 1, 1) := by decide +kernel
theorem dX3_isDone_148 : decode cX3_isDone 148 = .ok (.iconst 1, 1) := by decide +kernel
theorem dX3_isDone_149 : decode cX3_isDone 149 = .ok (.iadd, 1) := by decide +kernel
theorem dX3_isDone_150 : decode cX3_isDone 150 = .ok (.invokevirtual 46, 3) := by decide +kernel
theorem dX3_isDone_153 : decode cX3_isDone 153 = .ok (.invokevirtual 69, 3) := by decide +kernel
theorem dX3_isDone_156 : decode cX3_isDone 156 = .ok (.ireturn, 1) := by decide +kernel
theorem dX3_isDone_157 : decode cX3_isDone 157 = .ok (.aload_n 2, 1) := by decide +kernel
theorem dX3_isDone_158 : decode cX3_isDone 158 = .ok (.invokevirtual 72, 3) := by decide +kernel
theorem dX3_isDone_161 : decode cX3_isDone 161 = .ok (.ifCond .ne 5, 3) := by decide +kernel
theorem dX3_isDone_164 : decode cX3_isDone 164 = .ok (.iconst 0, 1) := by decide +kernel
theorem dX3_isDone_165 : decode cX3_isDone 165 = .ok (.ireturn, 1) := by decide +kernel
theorem dX3_isDone_166 : decode cX3_isDone 166 = .ok (.aload_n 2, 1) := by decide +kernel
theorem dX3_isDone_167 : decode cX3_isDone 167 = .ok (.aload_n 3, 1) := by decide +kernel
theorem dX3_isDone_168 : decode cX3_isDone 168 = .ok (.invokevirtual 76, 3) := by decide +kernel
theorem dX3_isDone_171 : decode cX3_isDone 171 = .ok (.pop, 1) := by decide +kernel
theorem dX3_isDone_172 : decode cX3_isDone 172 = .ok (.iconst 1, 1) := by decide +kernel
theorem dX3_isDone_173 : decode cX3_isDone 173 = .ok (.ireturn, 1) := by decide +kernel
theorem dX3_digit_0 : decode cX3_digit 0 = .ok (.iload_n 1, 1) := by decide +kernel
theorem dX3_digit_1 : decode cX3_digit 1 = .ok (.ifCond .lt 23, 3) := by decide +kernel
theorem dX3_digit_4 : decode cX3_digit 4 = .ok (.iload_n 1, 1) := by decide +kernel
theorem dX3_digit_5 : decode cX3_digit 5 = .ok (.aload_n 0, 1) := by decide +kernel
theorem dX3_digit_6 : decode cX3_digit 6 = .ok (.getfield 15, 3) := by decide +kernel
theorem dX3_digit_9 : decode cX3_digit 9 = .ok (.if_icmp .ge 15, 3) := by decide +kernel
theorem dX3_digit_12 : decode cX3_digit 12 = .ok (.aload_n 0, 1) := by decide +kernel
theorem dX3_digit_13 : decode cX3_digit 13 = .ok (.getfield 9, 3) := by decide +kernel
theorem dX3_digit_16 : decode cX3_digit 16 = .ok (.iload_n 1, 1) := by decide +kernel
theorem dX3_digit_17 : decode cX3_digit 17 = .ok (.caload, 1) := by decide +kernel
theorem dX3_digit_18 : decode cX3_digit 18 = .ok (.bipush 48, 2) := by decide +kernel
theorem dX3_digit_20 : decode cX3_digit 20 = .ok (.isub, 1) := by decide +kernel
theorem dX3_digit_21 : decode cX3_digit 21 = .ok (.goto 4, 3) := by decide +kernel
theorem dX3_digit_24 : decode cX3_digit 24 = .ok (.iconst 0, 1) := by decide +kernel
theorem dX3_digit_25 : decode cX3_digit 25 = .ok (.ireturn, 1) := by decide +kernel
set_option maxRecDepth 20000 in
theorem ggX4_init_X2_init : GoodIn wsX4_init wsX2_init := goodIn_r _ [10, 11, 2, 3, 12, 13, 14, 15, 16, 17, 18, 19, 20, 21, 22, 23, 24, 25, 6, 26, 27, 28, 29, 30, 31, 32, 33, 34, 35, 36, 37, 38, 39, 40, 41, 42, 43, 44, 45, 46, 47, 48, 49, 50, 51, 52, 53] (by decide +kernel) (by decide +kernel)
set_option maxRecDepth 20000 in
theorem gX4_init_X2_init : GoodIn wsX4_init (wsX2_init) := ggX4_init_X2_init
theorem dX4_init_0 : decode cX4_init 0 = .ok (.aload_n 0, 1) := by decide +kernel
theorem dX4_init_1 : decode cX4_init 1 = .ok (.invokespecial 3, 3) := by decide +kernel
theorem dX4_init_4 : decode cX4_init 4 = .ok (.aload_n 0, 1) := by decide +kernel
theorem dX4_init_5 : decode cX4_init 5 = .ok (.new 9, 3) := by decide +kernel
theorem dX4_init_8 : decode cX4_init 8 = .ok (.dup, 1) := by decide +kernel
theorem dX4_init_9 : decode cX4_init 9 = .ok (.invokespecial 11, 3) := by decide +kernel
theorem dX4_init_12 : decode cX4_init 12 = .ok (.putfield 12, 3) := by decide +kernel
theorem dX4_init_15 : decode cX4_init 15 = .ok (.return_, 1) := by decide +kernel
set_option maxRecDepth 20000 in
theorem ggX4_begin_X2_copyFrom : GoodIn wsX4_begin wsX2_copyFrom := goodIn_r _ [6, 7, 8, 9, 10, 11, 12, 13, 14, 15, 16, 17, 18, 19, 20, 21, 22, 23, 24, 25, 5, 26, 28, 29, 30, 31, 32, 33, 34, 35, 36, 37, 38, 39, 40, 41, 42, 43, 44] (by decide +kernel) (by decide +kernel)
set_option maxRecDepth 20000 in
theorem gX4_begin_X2_copyFrom : GoodIn wsX4_begin (wsV RX4 18 RX2 yX2_copyFrom wsX2_copyFrom) := goodIn_app (goodIn_of _ (by decide +kernel)) ggX4_begin_X2_copyFrom
theorem dX4_begin_0 : decode cX4_begin 0 = .ok (.aload_n 0, 1) := by decide +kernel
theorem dX4_begin_1 : decode cX4_begin 1 = .ok (.getfield 12, 3) := by decide +kernel
theorem dX4_begin_4 : decode cX4_begin 4 = .ok (.aload_n 1, 1) := by decide +kernel
theorem dX4_begin_5 : decode cX4_begin 5 = .ok (.invokevirtual 18, 3) := by decide +kernel
theorem dX4_begin_8 : decode cX4_begin 8 = .ok (.return_, 1) := by decide +kernel
set_option maxRecDepth 20000 in
theorem ggX4_castDays_X2_playDay : GoodIn wsX4_castDays wsX2_playDay := goodIn_r _ [6, 7, 8, 9, 10, 11, 12, 13, 14, 5, 15, 16, 17, 18, 19, 20, 21, 22, 23, 24, 25, 26, 27, 28, 29, 30, 31, 32, 33, 34, 35, 36, 37, 38, 39, 40, 41, 42, 43, 44, 45, 46, 47, 48, 49, 50, 51, 52, 53, 54, 55, 56, 57, 58, 59, 60, 61, 62, 63, 64, 65, 66, 67, 68, 69, 70, 71, 72, 73, 74, 75, 76, 77, 78, 79, 80, 81, 82, 83, 84, 85, 86, 87, 88, 89, 90, 91, 92, 93, 94, 95, 96, 97, 98, 99, 100, 101, 102, 103, 105, 106, 107, 108, 109, 110, 111, 112, 113, 114, 115, 116, 117, 118, 119, 120, 121, 122, 123, 124, 125, 126, 127] (by decide +kernel) (by decide +kernel)
set_option maxRecDepth 20000 in
theorem gX4_castDays_X2_playDay : GoodIn wsX4_castDays (wsV RX4 22 RX2 yX2_playDay wsX2_playDay) := goodIn_app (goodIn_of _ (by decide +kernel)) ggX4_castDays_X2_playDay
theorem dX4_castDays_0 : decode cX4_castDays 0 = .ok (.iconst 0, 1) := by decide +kernel
theorem dX4_castDays_1 : decode cX4_castDays 1 = .ok (.istore_n 3, 1) := by decide +kernel
theorem dX4_castDays_2 : decode cX4_castDays 2 = .ok (.iconst 0, 1) := by decide +kernel
theorem dX4_castDays_3 : decode cX4_castDays 3 = .ok (.istore 4, 2) := by decide +kernel
theorem dX4_castDays_5 : decode cX4_castDays 5 = .ok (.iload 4, 2) := by decide +kernel
theorem dX4_castDays_7 : decode cX4_castDays 7 = .ok (.iload_n 1, 1) := by decide +kernel
theorem dX4_castDays_8 : decode cX4_castDays 8 = .ok (.if_icmp .ge 28, 3) := by decide +kernel
theorem dX4_castDays_11 : decode cX4_castDays 11 = .ok (.aload_n 0, 1) := by decide +kernel
theorem dX4_castDays_12 : decode cX4_castDays 12 = .ok (.getfield 12, 3) := by decide +kernel
theorem dX4_castDays_15 : decode cX4_castDays 15 = .ok (.aload_n 2, 1) := by decide +kernel
theorem dX4_castDays_16 : decode cX4_castDays 16 = .ok (.invokevirtual 22, 3) := by decide +kernel
theorem dX4_castDays_19 : decode cX4_castDays 19 = .ok (.iconst (-1), 1) := by decide +kernel
theorem dX4_castDays_20 : decode cX4_castDays 20 = .ok (.if_icmp .eq 10, 3) := by decide +kernel
theorem dX4_castDays_23 : decode cX4_castDays 23 = .ok (.iload_n 3, 1) := by decide +kernel
theorem dX4_castDays_24 : decode cX4_castDays 24 = .ok (.iconst 1, 1) := by decide +kernel
theorem dX4_castDays_25 : decode cX4_castDays 25 = .ok (.iload 4, 2) := by decide +kernel
theorem dX4_castDays_27 : decode cX4_castDays 27 = .ok (.ishl, 1) := by decide +kernel
theorem dX4_castDays_28 : decode cX4_castDays 28 = .ok (.ior, 1) := by decide +kernel
theorem dX4_castDays_29 : decode cX4_castDays 29 = .ok (.istore_n 3, 1) := by decide +kernel
theorem dX4_castDays_30 : decode cX4_castDays 30 = .ok (.iinc 4 1, 3) := by decide +kernel
theorem dX4_castDays_33 : decode cX4_castDays 33 = .ok (.goto (-28), 3) := by decide +kernel
theorem dX4_castDays_36 : decode cX4_castDays 36 = .ok (.iload_n 3, 1) := by decide +kernel
theorem dX4_castDays_37 : decode cX4_castDays 37 = .ok (.ireturn, 1) := by decide +kernel
set_option maxRecDepth 20000 in
theorem ggX4_leastDegree_X2_putDegree : GoodIn wsX4_leastDegree wsX2_putDegree := goodIn_r _ [6, 7, 8, 9, 10, 5, 11, 12, 13, 14, 15, 16, 17, 18, 19, 20, 95, 96, 97, 98, 99, 100, 101, 102, 103, 104, 105, 106, 107, 108, 109, 110, 111] (by decide +kernel) (by decide +kernel)
set_option maxRecDepth 20000 in
theorem gX4_leastDegree_X2_putDegree : GoodIn wsX4_leastDegree (wsV RX4 26 RX2 yX2_putDegree wsX2_putDegree) := goodIn_app (goodIn_of _ (by decide +kernel)) ggX4_leastDegree_X2_putDegree
set_option maxRecDepth 20000 in
theorem ggX4_leastDegree_X4_plays : GoodIn wsX4_leastDegree wsX4_plays := goodIn_r _ [25, 1, 26, 27, 28, 5, 29, 12, 30, 31, 32, 33, 34, 35, 36, 37, 38, 39, 40, 41, 42, 43, 44, 45, 46, 47, 48, 49, 50, 51, 17, 52, 53, 54, 55, 56, 57, 58, 59, 60, 61, 62, 7, 63, 64, 18, 19, 20, 65, 66, 67, 68, 69, 70, 71, 72, 73, 74, 75, 76, 77, 78, 79, 80, 81, 82, 83, 84, 85, 86, 87, 88, 89, 9, 10, 11, 90, 91, 92, 93, 94, 95, 96, 97, 98, 99, 100, 101, 102, 103, 104, 105, 106, 107, 108, 109, 110, 111, 112, 113, 114, 115, 116, 117] (by decide +kernel) (by decide +kernel)
set_option maxRecDepth 20000 in
theorem gX4_leastDegree_X4_plays : GoodIn wsX4_leastDegree (wsV RX4 30 RX4 yX4_plays wsX4_plays) := goodIn_app (goodIn_of _ (by decide +kernel)) ggX4_leastDegree_X4_plays
theorem dX4_leastDegree_0 : decode cX4_leastDegree 0 = .ok (.iconst 1, 1) := by decide +kernel
theorem dX4_leastDegree_1 : decode cX4_leastDegree 1 = .ok (.istore 4, 2) := by decide +kernel
theorem dX4_leastDegree_3 : decode cX4_leastDegree 3 = .ok (.iload 4, 2) := by decide +kernel
theorem dX4_leastDegree_5 : decode cX4_leastDegree 5 = .ok (.bipush 9, 2) := by decide +kernel
theorem dX4_leastDegree_7 : decode cX4_leastDegree 7 = .ok (.if_icmp .gt 34, 3) := by decide +kernel
theorem dX4_leastDegree_10 : decode cX4_leastDegree 10 = .ok (.aload_n 0, 1) := by decide +kernel
theorem dX4_leastDegree_11 : decode cX4_leastDegree 11 = .ok (.getfield 12, 3) := by decide +kernel
theorem dX4_leastDegree_14 : decode cX4_leastDegree 14 = .ok (.iload_n 1, 1) := by decide +kernel
theorem dX4_leastDegree_15 : decode cX4_leastDegree 15 = .ok (.iload_n 2, 1) := by decide +kernel
theorem dX4_leastDegree_16 : decode cX4_leastDegree 16 = .ok (.iload 4, 2) := by decide +kernel
theorem dX4_leastDegree_18 : decode cX4_leastDegree 18 = .ok (.invokevirtual 26, 3) := by decide +kernel
theorem dX4_leastDegree_21 : decode cX4_leastDegree 21 = .ok (.pop, 1) := by decide +kernel
theorem dX4_leastDegree_22 : decode cX4_leastDegree 22 = .ok (.aload_n 0, 1) := by decide +kernel
theorem dX4_leastDegree_23 : decode cX4_leastDegree 23 = .ok (.iload_n 1, 1) := by decide +kernel
theorem dX4_leastDegree_24 : decode cX4_leastDegree 24 = .ok (.iload_n 2, 1) := by decide +kernel
theorem dX4_leastDegree_25 : decode cX4_leastDegree 25 = .ok (.aload_n 3, 1) := by decide +kernel
theorem dX4_leastDegree_26 : decode cX4_leastDegree 26 = .ok (.invokevirtual 30, 3) := by decide +kernel
theorem dX4_leastDegree_29 : decode cX4_leastDegree 29 = .ok (.ifCond .eq 6, 3) := by decide +kernel
theorem dX4_leastDegree_32 : decode cX4_leastDegree 32 = .ok (.iload 4, 2) := by decide +kernel
theorem dX4_leastDegree_34 : decode cX4_leastDegree 34 = .ok (.ireturn, 1) := by decide +kernel
theorem dX4_leastDegree_35 : decode cX4_leastDegree 35 = .ok (.iinc 4 1, 3) := by decide +kernel
theorem dX4_leastDegree_38 : decode cX4_leastDegree 38 = .ok (.goto (-35), 3) := by decide +kernel
theorem dX4_leastDegree_41 : decode cX4_leastDegree 41 = .ok (.iconst (-1), 1) := by decide +kernel
theorem dX4_leastDegree_42 : decode cX4_leastDegree 42 = .ok (.ireturn, 1) := by decide +kernel
set_option maxRecDepth 20000 in
theorem ggX4_plays_X2_freePlayers : GoodIn wsX4_plays wsX2_freePlayers := goodIn_r _ [6, 7, 8, 9, 10, 5, 11, 12, 13, 14, 15, 81, 82, 83, 84, 85, 86, 87, 88, 89, 90, 91, 92, 93, 94, 95, 96, 97] (by decide +kernel) (by decide +kernel)
set_option maxRecDepth 20000 in
theorem gX4_plays_X2_freePlayers : GoodIn wsX4_plays (wsV RX4 34 RX2 yX2_freePlayers wsX2_freePlayers) := goodIn_app (goodIn_of _ (by decide +kernel)) ggX4_plays_X2_freePlayers
set_option maxRecDepth 20000 in
theorem ggX4_plays_X0_seek : GoodIn wsX4_plays wsX0_seek := goodIn_r _ [20, 21, 22, 23, 24, 25, 26, 27, 28, 5, 29, 30, 31, 32, 33, 34, 7, 35, 36, 19, 37, 38, 39, 40, 41, 42, 43, 44, 45, 46, 47, 48, 49, 50, 51, 52, 53, 54, 55, 56, 57, 58, 59, 60, 61, 62, 63, 64, 65, 66, 67, 68, 69, 70, 71, 98, 99, 100, 101, 102, 103, 81, 82, 83, 84, 85, 86, 87, 88, 89, 90, 91, 92, 93, 94, 95, 96, 97] (by decide +kernel) (by decide +kernel)
set_option maxRecDepth 20000 in
theorem gX4_plays_X0_seek : GoodIn wsX4_plays (wsV RX4 38 RX0 yX0_seek wsX0_seek) := goodIn_app (goodIn_of _ (by decide +kernel)) ggX4_plays_X0_seek
set_option maxRecDepth 20000 in
theorem ggX4_plays_X2_hasPlayer : GoodIn wsX4_plays wsX2_hasPlayer := goodIn_r _ [75, 7, 81, 82, 83, 84, 85, 86, 87, 88, 89, 90, 91, 92, 93, 94, 95, 96, 97] (by decide +kernel) (by decide +kernel)
set_option maxRecDepth 20000 in
theorem gX4_plays_X2_hasPlayer : GoodIn wsX4_plays (wsV RX4 44 RX2 yX2_hasPlayer wsX2_hasPlayer) := goodIn_app (goodIn_of _ (by decide +kernel)) ggX4_plays_X2_hasPlayer
set_option maxRecDepth 20000 in
theorem ggX4_plays_X0_playerOf : GoodIn wsX4_plays wsX0_playerOf := goodIn_r _ [79, 21, 71, 98, 99, 100, 101, 102, 103] (by decide +kernel) (by decide +kernel)
set_option maxRecDepth 20000 in
theorem gX4_plays_X0_playerOf : GoodIn wsX4_plays (wsV RX4 48 RX0 yX0_playerOf wsX0_playerOf) := goodIn_app (goodIn_of _ (by decide +kernel)) ggX4_plays_X0_playerOf
theorem dX4_plays_0 : decode cX4_plays 0 = .ok (.aload_n 3, 1) := by decide +kernel
theorem dX4_plays_1 : decode cX4_plays 1 = .ok (.aload_n 0, 1) := by decide +kernel
theorem dX4_plays_2 : decode cX4_plays 2 = .ok (.getfield 12, 3) := by decide +kernel
theorem dX4_plays_5 : decode cX4_plays 5 = .ok (.aload_n 0, 1) := by decide +kernel
theorem dX4_plays_6 : decode cX4_plays 6 = .ok (.getfield 12, 3) := by decide +kernel
theorem dX4_plays_9 : decode cX4_plays 9 = .ok (.invokevirtual 34, 3) := by decide +kernel
theorem dX4_plays_12 : decode cX4_plays 12 = .ok (.invokevirtual 38, 3) := by decide +kernel
theorem dX4_plays_15 : decode cX4_plays 15 = .ok (.pop, 1) := by decide +kernel
theorem dX4_plays_16 : decode cX4_plays 16 = .ok (.aload_n 0, 1) := by decide +kernel
theorem dX4_plays_17 : decode cX4_plays 17 = .ok (.getfield 12, 3) := by decide +kernel
theorem dX4_plays_20 : decode cX4_plays 20 = .ok (.iload_n 1, 1) := by decide +kernel
theorem dX4_plays_21 : decode cX4_plays 21 = .ok (.invokevirtual 44, 3) := by decide +kernel
theorem dX4_plays_24 : decode cX4_plays 24 = .ok (.ifCond .eq 16, 3) := by decide +kernel
theorem dX4_plays_27 : decode cX4_plays 27 = .ok (.aload_n 3, 1) := by decide +kernel
theorem dX4_plays_28 : decode cX4_plays 28 = .ok (.iload_n 2, 1) := by decide +kernel
theorem dX4_plays_29 : decode cX4_plays 29 = .ok (.invokevirtual 48, 3) := by decide +kernel
theorem dX4_plays_32 : decode cX4_plays 32 = .ok (.iload_n 1, 1) := by decide +kernel
theorem dX4_plays_33 : decode cX4_plays 33 = .ok (.if_icmp .ne 7, 3) := by decide +kernel
theorem dX4_plays_36 : decode cX4_plays 36 = .ok (.iconst 1, 1) := by decide +kernel
theorem dX4_plays_37 : decode cX4_plays 37 = .ok (.goto 4, 3) := by decide +kernel
theorem dX4_plays_40 : decode cX4_plays 40 = .ok (.iconst 0, 1) := by decide +kernel
theorem dX4_plays_41 : decode cX4_plays 41 = .ok (.ireturn, 1) := by decide +kernel
theorem dX4_withoutGroups_0 : decode cX4_withoutGroups 0 = .ok (.lload_n 0, 1) := by decide +kernel
theorem dX4_withoutGroups_1 : decode cX4_withoutGroups 1 = .ok (.lstore_n 3, 1) := by decide +kernel
theorem dX4_withoutGroups_2 : decode cX4_withoutGroups 2 = .ok (.iconst 0, 1) := by decide +kernel
theorem dX4_withoutGroups_3 : decode cX4_withoutGroups 3 = .ok (.istore 5, 2) := by decide +kernel
theorem dX4_withoutGroups_5 : decode cX4_withoutGroups 5 = .ok (.iload 5, 2) := by decide +kernel
theorem dX4_withoutGroups_7 : decode cX4_withoutGroups 7 = .ok (.iload_n 2, 1) := by decide +kernel
theorem dX4_withoutGroups_8 : decode cX4_withoutGroups 8 = .ok (.if_icmp .ge 15, 3) := by decide +kernel
theorem dX4_withoutGroups_11 : decode cX4_withoutGroups 11 = .ok (.lload_n 3, 1) := by decide +kernel
theorem dX4_withoutGroups_12 : decode cX4_withoutGroups 12 = .ok (.ldc2_w 52, 3) := by decide +kernel
theorem dX4_withoutGroups_15 : decode cX4_withoutGroups 15 = .ok (.ldiv, 1) := by decide +kernel
theorem dX4_withoutGroups_16 : decode cX4_withoutGroups 16 = .ok (.lstore_n 3, 1) := by decide +kernel
theorem dX4_withoutGroups_17 : decode cX4_withoutGroups 17 = .ok (.iinc 5 1, 3) := by decide +kernel
theorem dX4_withoutGroups_20 : decode cX4_withoutGroups 20 = .ok (.goto (-15), 3) := by decide +kernel
theorem dX4_withoutGroups_23 : decode cX4_withoutGroups 23 = .ok (.lload_n 3, 1) := by decide +kernel
theorem dX4_withoutGroups_24 : decode cX4_withoutGroups 24 = .ok (.lreturn, 1) := by decide +kernel
set_option maxRecDepth 20000 in
theorem ggX4_firstFailing_X4_withoutGroups : GoodIn wsX4_firstFailing wsX4_withoutGroups := goodIn_r _ [5, 1] (by decide +kernel) (by decide +kernel)
set_option maxRecDepth 20000 in
theorem gX4_firstFailing_X4_withoutGroups : GoodIn wsX4_firstFailing (va_wsS RX4 54 yX4_withoutGroups wsX4_withoutGroups) := goodIn_app (goodIn_of _ (by decide +kernel)) ggX4_firstFailing_X4_withoutGroups
set_option maxRecDepth 20000 in
theorem ggX4_firstFailing_X4_succeeds : GoodIn wsX4_firstFailing wsX4_succeeds := goodIn_r _ [9, 10, 11, 12, 13, 14, 15, 16, 17, 18, 19, 20, 21, 22, 23, 24, 25, 26, 27, 28, 29, 30, 31, 32, 33, 34, 35, 36, 37, 38, 39, 40, 41, 42, 43, 44, 45, 46, 47, 48, 49, 50, 51, 52, 53, 54, 55, 56, 57, 58, 59, 60, 61, 62, 63, 64, 65, 66, 67, 68, 69, 70, 71, 72, 73, 74, 75, 76, 77, 78, 79, 80, 81, 82, 83, 84, 85, 86, 87, 88, 89, 90, 91, 92, 93, 94, 95, 96, 97, 98, 99, 100, 101, 102, 103, 104, 105, 106, 107, 108, 109, 110, 111, 112, 113, 114, 115, 116, 117, 118, 119, 120, 121, 122, 123, 124, 125, 126, 127, 128, 129, 130, 131, 132, 133, 134, 135, 136, 137, 138, 139, 140, 141, 142, 143, 4, 144, 145, 146, 147, 148, 149, 150, 151, 152, 153, 154, 155, 156, 157, 158, 159, 160, 161, 162, 163, 164, 165, 166, 167, 168, 169, 170, 171, 172, 173, 174, 175, 176] (by decide +kernel) (by decide +kernel)
set_option maxRecDepth 20000 in
theorem gX4_firstFailing_X4_succeeds : GoodIn wsX4_firstFailing (wsV RX4 58 RX4 yX4_succeeds wsX4_succeeds) := goodIn_app (goodIn_of _ (by decide +kernel)) ggX4_firstFailing_X4_succeeds
theorem dX4_firstFailing_0 : decode cX4_firstFailing 0 = .ok (.iconst 0, 1) := by decide +kernel
theorem dX4_firstFailing_1 : decode cX4_firstFailing 1 = .ok (.istore 5, 2) := by decide +kernel
theorem dX4_firstFailing_3 : decode cX4_firstFailing 3 = .ok (.iload 5, 2) := by decide +kernel
theorem dX4_firstFailing_5 : decode cX4_firstFailing 5 = .ok (.iload_n 1, 1) := by decide +kernel
theorem dX4_firstFailing_6 : decode cX4_firstFailing 6 = .ok (.if_icmp .ge 36, 3) := by decide +kernel
theorem dX4_firstFailing_9 : decode cX4_firstFailing 9 = .ok (.aload_n 0, 1) := by decide +kernel
theorem dX4_firstFailing_10 : decode cX4_firstFailing 10 = .ok (.lload_n 2, 1) := by decide +kernel
theorem dX4_firstFailing_11 : decode cX4_firstFailing 11 = .ok (.iload_n 1, 1) := by decide +kernel
theorem dX4_firstFailing_12 : decode cX4_firstFailing 12 = .ok (.iconst 1, 1) := by decide +kernel
theorem dX4_firstFailing_13 : decode cX4_firstFailing 13 = .ok (.isub, 1) := by decide +kernel
theorem dX4_firstFailing_14 : decode cX4_firstFailing 14 = .ok (.iload 5, 2) := by decide +kernel
theorem dX4_firstFailing_16 : decode cX4_firstFailing 16 = .ok (.isub, 1) := by decide +kernel
theorem dX4_firstFailing_17 : decode cX4_firstFailing 17 = .ok (.invokestatic 54, 3) := by decide +kernel
theorem dX4_firstFailing_20 : decode cX4_firstFailing 20 = .ok (.ldc2_w 52, 3) := by decide +kernel
theorem dX4_firstFailing_23 : decode cX4_firstFailing 23 = .ok (.lrem, 1) := by decide +kernel
theorem dX4_firstFailing_24 : decode cX4_firstFailing 24 = .ok (.l2i, 1) := by decide +kernel
theorem dX4_firstFailing_25 : decode cX4_firstFailing 25 = .ok (.aload 4, 2) := by decide +kernel
theorem dX4_firstFailing_27 : decode cX4_firstFailing 27 = .ok (.invokevirtual 58, 3) := by decide +kernel
theorem dX4_firstFailing_30 : decode cX4_firstFailing 30 = .ok (.ifCond .ne 6, 3) := by decide +kernel
theorem dX4_firstFailing_33 : decode cX4_firstFailing 33 = .ok (.iload 5, 2) := by decide +kernel
theorem dX4_firstFailing_35 : decode cX4_firstFailing 35 = .ok (.ireturn, 1) := by decide +kernel
theorem dX4_firstFailing_36 : decode cX4_firstFailing 36 = .ok (.iinc 5 1, 3) := by decide +kernel
theorem dX4_firstFailing_39 : decode cX4_firstFailing 39 = .ok (.goto (-36), 3) := by decide +kernel
theorem dX4_firstFailing_42 : decode cX4_firstFailing 42 = .ok (.iconst (-1), 1) := by decide +kernel
theorem dX4_firstFailing_43 : decode cX4_firstFailing 43 = .ok (.ireturn, 1) := by decide +kernel
set_option maxRecDepth 20000 in
theorem ggX4_succeeds_X2_putDegree : GoodIn wsX4_succeeds wsX2_putDegree := goodIn_r _ [6, 7, 8, 9, 10, 5, 11, 12, 13, 14, 15, 16, 17, 18, 19, 20, 146, 147, 148, 149, 150, 151, 152, 153, 154, 155, 156, 157, 158, 159, 160, 161, 162] (by decide +kernel) (by decide +kernel)
set_option maxRecDepth 20000 in
theorem gX4_succeeds_X2_putDegree : GoodIn wsX4_succeeds (wsV RX4 26 RX2 yX2_putDegree wsX2_putDegree) := goodIn_app (goodIn_of _ (by decide +kernel)) ggX4_succeeds_X2_putDegree
set_option maxRecDepth 20000 in
theorem ggX4_succeeds_X2_putFirst : GoodIn wsX4_succeeds wsX2_putFirst := goodIn_r _ [24, 25, 13, 14, 15, 5, 16, 17, 8, 9, 10, 11, 12, 146, 147, 148, 149, 150, 151, 152, 153, 154, 155, 156, 157, 158, 159, 160, 161, 162] (by decide +kernel) (by decide +kernel)
set_option maxRecDepth 20000 in
theorem gX4_succeeds_X2_putFirst : GoodIn wsX4_succeeds (wsV RX4 62 RX2 yX2_putFirst wsX2_putFirst) := goodIn_app (goodIn_of _ (by decide +kernel)) ggX4_succeeds_X2_putFirst
set_option maxRecDepth 20000 in
theorem ggX4_succeeds_X2_sendAway : GoodIn wsX4_succeeds wsX2_sendAway := goodIn_r _ [29, 30, 31, 8, 9, 10, 5, 11, 12, 146, 147, 148, 149, 150, 151, 152, 153, 154, 155, 156, 157, 158, 159, 160, 161, 162] (by decide +kernel) (by decide +kernel)
set_option maxRecDepth 20000 in
theorem gX4_succeeds_X2_sendAway : GoodIn wsX4_succeeds (wsV RX4 66 RX2 yX2_sendAway wsX2_sendAway) := goodIn_app (goodIn_of _ (by decide +kernel)) ggX4_succeeds_X2_sendAway
set_option maxRecDepth 20000 in
theorem ggX4_succeeds_X2_postCast : GoodIn wsX4_succeeds wsX2_postCast := goodIn_r _ [35, 17, 36, 37, 38, 39, 40, 5, 41, 12, 42, 43, 44, 45, 30, 31, 46, 47, 48, 49, 50, 51, 52, 53, 54, 55, 56, 57, 58, 59, 60, 61, 62, 63, 64, 65, 66, 67, 68, 69, 70, 71, 72, 7, 73, 25, 18, 19, 20, 74, 75, 76, 77, 78, 79, 80, 81, 82, 83, 84, 85, 86, 87, 88, 89, 90, 91, 92, 93, 94, 95, 96, 97, 98, 99, 100, 101, 146, 147, 148, 149, 150, 151, 152, 153, 154, 155, 156, 157, 158, 159, 160, 161, 162, 163, 164, 165, 166, 167, 168] (by decide +kernel) (by decide +kernel)
set_option maxRecDepth 20000 in
theorem gX4_succeeds_X2_postCast : GoodIn wsX4_succeeds (wsV RX4 69 RX2 yX2_postCast wsX2_postCast) := goodIn_app (goodIn_of _ (by decide +kernel)) ggX4_succeeds_X2_postCast
set_option maxRecDepth 20000 in
theorem ggX4_succeeds_X2_roleCount : GoodIn wsX4_succeeds wsX2_roleCount := goodIn_r _ [61, 17, 146, 147, 148, 149, 150, 151, 152, 153, 154, 155, 156, 157, 158, 159, 160, 161, 162] (by decide +kernel) (by decide +kernel)
set_option maxRecDepth 20000 in
theorem gX4_succeeds_X2_roleCount : GoodIn wsX4_succeeds (wsV RX4 73 RX2 yX2_roleCount wsX2_roleCount) := goodIn_app (goodIn_of _ (by decide +kernel)) ggX4_succeeds_X2_roleCount
set_option maxRecDepth 20000 in
theorem ggX4_succeeds_X2_playDay : GoodIn wsX4_succeeds wsX2_playDay := goodIn_r _ [106, 107, 12, 46, 31, 37, 38, 39, 40, 5, 41, 42, 43, 44, 45, 30, 47, 48, 49, 50, 51, 52, 53, 54, 55, 56, 57, 58, 59, 60, 61, 17, 62, 63, 64, 65, 66, 67, 68, 69, 70, 71, 72, 7, 73, 25, 18, 19, 20, 74, 75, 76, 77, 78, 79, 80, 81, 82, 83, 84, 85, 86, 87, 88, 89, 90, 91, 92, 93, 94, 95, 96, 97, 108, 109, 110, 111, 112, 98, 99, 100, 101, 8, 9, 10, 11, 113, 114, 115, 116, 117, 36, 118, 119, 120, 121, 122, 123, 124, 146, 147, 148, 149, 150, 151, 152, 153, 154, 155, 156, 157, 158, 159, 160, 161, 162, 163, 164, 165, 166, 167, 168] (by decide +kernel) (by decide +kernel)
set_option maxRecDepth 20000 in
theorem gX4_succeeds_X2_playDay : GoodIn wsX4_succeeds (wsV RX4 22 RX2 yX2_playDay wsX2_playDay) := goodIn_app (goodIn_of _ (by decide +kernel)) ggX4_succeeds_X2_playDay
set_option maxRecDepth 20000 in
theorem ggX4_succeeds_X2_passDays : GoodIn wsX4_succeeds wsX2_passDays := goodIn_r _ [128, 46, 31, 37, 129, 130, 5, 131, 146, 147, 148, 149, 150, 151, 152, 153, 154, 155, 156, 157, 158, 159, 160, 161, 162] (by decide +kernel) (by decide +kernel)
set_option maxRecDepth 20000 in
theorem gX4_succeeds_X2_passDays : GoodIn wsX4_succeeds (wsV RX4 76 RX2 yX2_passDays wsX2_passDays) := goodIn_app (goodIn_of _ (by decide +kernel)) ggX4_succeeds_X2_passDays
set_option maxRecDepth 20000 in
theorem ggX4_succeeds_X4_plays : GoodIn wsX4_succeeds wsX4_plays := goodIn_r _ [136, 1, 137, 39, 40, 5, 41, 12, 42, 43, 44, 45, 30, 31, 46, 47, 138, 49, 50, 51, 52, 53, 54, 55, 56, 57, 58, 59, 60, 61, 17, 62, 63, 64, 65, 66, 67, 68, 69, 70, 71, 72, 7, 73, 25, 18, 19, 20, 74, 75, 76, 77, 78, 79, 80, 81, 82, 83, 84, 85, 86, 87, 88, 89, 90, 91, 92, 93, 94, 95, 96, 97, 139, 9, 10, 11, 140, 99, 100, 101, 145, 146, 147, 148, 149, 150, 151, 152, 153, 154, 155, 156, 157, 158, 159, 160, 161, 162, 163, 164, 165, 166, 167, 168] (by decide +kernel) (by decide +kernel)
set_option maxRecDepth 20000 in
theorem gX4_succeeds_X4_plays : GoodIn wsX4_succeeds (wsV RX4 30 RX4 yX4_plays wsX4_plays) := goodIn_app (goodIn_of _ (by decide +kernel)) ggX4_succeeds_X4_plays
set_option maxRecDepth 20000 in
theorem ggX4_succeeds_X2_freePlayers : GoodIn wsX4_succeeds wsX2_freePlayers := goodIn_r _ [41, 12, 42, 43, 44, 5, 45, 30, 31, 46, 47, 146, 147, 148, 149, 150, 151, 152, 153, 154, 155, 156, 157, 158, 159, 160, 161, 162] (by decide +kernel) (by decide +kernel)
set_option maxRecDepth 20000 in
theorem gX4_succeeds_X2_freePlayers : GoodIn wsX4_succeeds (wsV RX4 34 RX2 yX2_freePlayers wsX2_freePlayers) := goodIn_app (goodIn_of _ (by decide +kernel)) ggX4_succeeds_X2_freePlayers
set_option maxRecDepth 20000 in
theorem ggX4_succeeds_X0_seek : GoodIn wsX4_succeeds wsX0_seek := goodIn_r _ [52, 53, 54, 55, 56, 57, 58, 59, 60, 5, 61, 17, 62, 63, 64, 65, 12, 66, 67, 51, 68, 69, 70, 71, 72, 7, 73, 25, 18, 19, 20, 74, 75, 76, 77, 78, 79, 80, 81, 82, 83, 84, 85, 86, 87, 88, 89, 90, 91, 92, 93, 94, 95, 96, 97, 163, 164, 165, 166, 167, 168, 146, 147, 148, 149, 150, 151, 152, 153, 154, 155, 156, 157, 158, 159, 160, 161, 162] (by decide +kernel) (by decide +kernel)
set_option maxRecDepth 20000 in
theorem gX4_succeeds_X0_seek : GoodIn wsX4_succeeds (wsV RX4 38 RX0 yX0_seek wsX0_seek) := goodIn_app (goodIn_of _ (by decide +kernel)) ggX4_succeeds_X0_seek
set_option maxRecDepth 20000 in
theorem ggX4_succeeds_X2_hasPlayer : GoodIn wsX4_succeeds wsX2_hasPlayer := goodIn_r _ [11, 12, 146, 147, 148, 149, 150, 151, 152, 153, 154, 155, 156, 157, 158, 159, 160, 161, 162] (by decide +kernel) (by decide +kernel)
set_option maxRecDepth 20000 in
theorem gX4_succeeds_X2_hasPlayer : GoodIn wsX4_succeeds (wsV RX4 44 RX2 yX2_hasPlayer wsX2_hasPlayer) := goodIn_app (goodIn_of _ (by decide +kernel)) ggX4_succeeds_X2_hasPlayer
set_option maxRecDepth 20000 in
theorem ggX4_succeeds_X2_payOf : GoodIn wsX4_succeeds wsX2_payOf := goodIn_r _ [144, 118, 146, 147, 148, 149, 150, 151, 152, 153, 154, 155, 156, 157, 158, 159, 160, 161, 162] (by decide +kernel) (by decide +kernel)
set_option maxRecDepth 20000 in
theorem gX4_succeeds_X2_payOf : GoodIn wsX4_succeeds (wsV RX4 79 RX2 yX2_payOf wsX2_payOf) := goodIn_app (goodIn_of _ (by decide +kernel)) ggX4_succeeds_X2_payOf
theorem dX4_succeeds_0 : decode cX4_succeeds 0 = .ok (.iload_n 1, 1) := by decide +kernel
theorem dX4_succeeds_1 : decode cX4_succeeds 1 = .ok (.bipush 100, 2) := by decide +kernel
theorem dX4_succeeds_3 : decode cX4_succeeds 3 = .ok (.idiv, 1) := by decide +kernel
theorem dX4_succeeds_4 : decode cX4_succeeds 4 = .ok (.bipush 10, 2) := by decide +kernel
theorem dX4_succeeds_6 : decode cX4_succeeds 6 = .ok (.irem, 1) := by decide +kernel
theorem dX4_succeeds_7 : decode cX4_succeeds 7 = .ok (.istore_n 3, 1) := by decide +kernel
theorem dX4_succeeds_8 : decode cX4_succeeds 8 = .ok (.iload_n 1, 1) := by decide +kernel
theorem dX4_succeeds_9 : decode cX4_succeeds 9 = .ok (.bipush 10, 2) := by decide +kernel
theorem dX4_succeeds_11 : decode cX4_succeeds 11 = .ok (.idiv, 1) := by decide +kernel
theorem dX4_succeeds_12 : decode cX4_succeeds 12 = .ok (.bipush 10, 2) := by decide +kernel
theorem dX4_succeeds_14 : decode cX4_succeeds 14 = .ok (.irem, 1) := by decide +kernel
theorem dX4_succeeds_15 : decode cX4_succeeds 15 = .ok (.istore 4, 2) := by decide +kernel
theorem dX4_succeeds_17 : decode cX4_succeeds 17 = .ok (.iload_n 1, 1) := by decide +kernel
theorem dX4_succeeds_18 : decode cX4_succeeds 18 = .ok (.bipush 10, 2) := by decide +kernel
theorem dX4_succeeds_20 : decode cX4_succeeds 20 = .ok (.irem, 1) := by decide +kernel
theorem dX4_succeeds_21 : decode cX4_succeeds 21 = .ok (.istore 5, 2) := by decide +kernel
theorem dX4_succeeds_23 : decode cX4_succeeds 23 = .ok (.iload_n 1, 1) := by decide +kernel
theorem dX4_succeeds_24 : decode cX4_succeeds 24 = .ok (.sipush 1000, 3) := by decide +kernel
theorem dX4_succeeds_27 : decode cX4_succeeds 27 = .ok (.idiv, 1) := by decide +kernel
theorem dX4_succeeds_28 : decode cX4_succeeds 28 = .ok (.tableswitch 283 1 9 #[52, 65, 89, 113, 137, 172, 200, 222, 251], 52) := by decide +kernel
theorem dX4_succeeds_80 : decode cX4_succeeds 80 = .ok (.aload_n 0, 1) := by decide +kernel
theorem dX4_succeeds_81 : decode cX4_succeeds 81 = .ok (.getfield 12, 3) := by decide +kernel
theorem dX4_succeeds_84 : decode cX4_succeeds 84 = .ok (.iload_n 3, 1) := by decide +kernel
theorem dX4_succeeds_85 : decode cX4_succeeds 85 = .ok (.iload 4, 2) := by decide +kernel
theorem dX4_succeeds_87 : decode cX4_succeeds 87 = .ok (.iload 5, 2) := by decide +kernel
theorem dX4_succeeds_89 : decode cX4_succeeds 89 = .ok (.invokevirtual 26, 3) := by decide +kernel
theorem dX4_succeeds_92 : decode cX4_succeeds 92 = .ok (.ireturn, 1) := by decide +kernel
theorem dX4_succeeds_93 : decode cX4_succeeds 93 = .ok (.iload 5, 2) := by decide +kernel
theorem dX4_succeeds_95 : decode cX4_succeeds 95 = .ok (.ifCond .ne 20, 3) := by decide +kernel
theorem dX4_succeeds_98 : decode cX4_succeeds 98 = .ok (.aload_n 0, 1) := by decide +kernel
theorem dX4_succeeds_99 : decode cX4_succeeds 99 = .ok (.getfield 12, 3) := by decide +kernel
theorem dX4_succeeds_102 : decode cX4_succeeds 102 = .ok (.iload_n 3, 1) := by decide +kernel
theorem dX4_succeeds_103 : decode cX4_succeeds 103 = .ok (.iload 4, 2) := by decide +kernel
theorem dX4_succeeds_105 : decode cX4_succeeds 105 = .ok (.invokevirtual 62, 3) := by decide +kernel
theorem dX4_succeeds_108 : decode cX4_succeeds 108 = .ok (.ifCond .eq 7, 3) := by decide +kernel
theorem dX4_succeeds_111 : decode cX4_succeeds 111 = .ok (.iconst 1, 1) := by decide +kernel
theorem dX4_succeeds_112 : decode cX4_succeeds 112 = .ok (.goto 4, 3) := by decide +kernel
theorem dX4_succeeds_115 : decode cX4_succeeds 115 = .ok (.iconst 0, 1) := by decide +kernel
theorem dX4_succeeds_116 : decode cX4_succeeds 116 = .ok (.ireturn, 1) := by decide +kernel
theorem dX4_succeeds_117 : decode cX4_succeeds 117 = .ok (.iload 4, 2) := by decide +kernel
theorem dX4_succeeds_119 : decode cX4_succeeds 119 = .ok (.ifCond .ne 20, 3) := by decide +kernel
theorem dX4_succeeds_122 : decode cX4_succeeds 122 = .ok (.aload_n 0, 1) := by decide +kernel
theorem dX4_succeeds_123 : decode cX4_succeeds 123 = .ok (.getfield 12, 3) := by decide +kernel
theorem dX4_succeeds_126 : decode cX4_succeeds 126 = .ok (.iload_n 3, 1) := by decide +kernel
theorem dX4_succeeds_127 : decode cX4_succeeds 127 = .ok (.iload 5, 2) := by decide +kernel
theorem dX4_succeeds_129 : decode cX4_succeeds 129 = .ok (.invokevirtual 66, 3) := by decide +kernel
theorem dX4_succeeds_132 : decode cX4_succeeds 132 = .ok (.ifCond .eq 7, 3) := by decide +kernel
theorem dX4_succeeds_135 : decode cX4_succeeds 135 = .ok (.iconst 1, 1) := by decide +kernel
theorem dX4_succeeds_136 : decode cX4_succeeds 136 = .ok (.goto 4, 3) := by decide +kernel
theorem dX4_succeeds_139 : decode cX4_succeeds 139 = .ok (.iconst 0, 1) := by decide +kernel
theorem dX4_succeeds_140 : decode cX4_succeeds 140 = .ok (.ireturn, 1) := by decide +kernel
theorem dX4_succeeds_141 : decode cX4_succeeds 141 = .ok (.iload_n 1, 1) := by decide +kernel
theorem dX4_succeeds_142 : decode cX4_succeeds 142 = .ok (.sipush 4000, 3) := by decide +kernel
theorem dX4_succeeds_145 : decode cX4_succeeds 145 = .ok (.if_icmp .ne 18, 3) := by decide +kernel
theorem dX4_succeeds_148 : decode cX4_succeeds 148 = .ok (.aload_n 0, 1) := by decide +kernel
theorem dX4_succeeds_149 : decode cX4_succeeds 149 = .ok (.getfield 12, 3) := by decide +kernel
theorem dX4_succeeds_152 : decode cX4_succeeds 152 = .ok (.aload_n 2, 1) := by decide +kernel
theorem dX4_succeeds_153 : decode cX4_succeeds 153 = .ok (.invokevirtual 69, 3) := by decide +kernel
theorem dX4_succeeds_156 : decode cX4_succeeds 156 = .ok (.ifCond .eq 7, 3) := by decide +kernel
theorem dX4_succeeds_159 : decode cX4_succeeds 159 = .ok (.iconst 1, 1) := by decide +kernel
theorem dX4_succeeds_160 : decode cX4_succeeds 160 = .ok (.goto 4, 3) := by decide +kernel
theorem dX4_succeeds_163 : decode cX4_succeeds 163 = .ok (.iconst 0, 1) := by decide +kernel
theorem dX4_succeeds_164 : decode cX4_succeeds 164 = .ok (.ireturn, 1) := by decide +kernel
theorem dX4_succeeds_165 : decode cX4_succeeds 165 = .ok (.iload_n 1, 1) := by decide +kernel
theorem dX4_succeeds_166 : decode cX4_succeeds 166 = .ok (.sipush 5000, 3) := by decide +kernel
theorem dX4_succeeds_169 : decode cX4_succeeds 169 = .ok (.if_icmp .ne 29, 3) := by decide +kernel
theorem dX4_succeeds_172 : decode cX4_succeeds 172 = .ok (.aload_n 0, 1) := by decide +kernel
theorem dX4_succeeds_173 : decode cX4_succeeds 173 = .ok (.getfield 12, 3) := by decide +kernel
theorem dX4_succeeds_176 : decode cX4_succeeds 176 = .ok (.invokevirtual 73, 3) := by decide +kernel
theorem dX4_succeeds_179 : decode cX4_succeeds 179 = .ok (.ifCond .le 19, 3) := by decide +kernel
theorem dX4_succeeds_182 : decode cX4_succeeds 182 = .ok (.aload_n 0, 1) := by decide +kernel
theorem dX4_succeeds_183 : decode cX4_succeeds 183 = .ok (.getfield 12, 3) := by decide +kernel
theorem dX4_succeeds_186 : decode cX4_succeeds 186 = .ok (.aload_n 2, 1) := by decide +kernel
theorem dX4_succeeds_187 : decode cX4_succeeds 187 = .ok (.invokevirtual 22, 3) := by decide +kernel
theorem dX4_succeeds_190 : decode cX4_succeeds 190 = .ok (.iconst (-1), 1) := by decide +kernel
theorem dX4_succeeds_191 : decode cX4_succeeds 191 = .ok (.if_icmp .eq 7, 3) := by decide +kernel
theorem dX4_succeeds_194 : decode cX4_succeeds 194 = .ok (.iconst 1, 1) := by decide +kernel
theorem dX4_succeeds_195 : decode cX4_succeeds 195 = .ok (.goto 4, 3) := by decide +kernel
theorem dX4_succeeds_198 : decode cX4_succeeds 198 = .ok (.iconst 0, 1) := by decide +kernel
theorem dX4_succeeds_199 : decode cX4_succeeds 199 = .ok (.ireturn, 1) := by decide +kernel
theorem dX4_succeeds_200 : decode cX4_succeeds 200 = .ok (.iload_n 3, 1) := by decide +kernel
theorem dX4_succeeds_201 : decode cX4_succeeds 201 = .ok (.ifCond .ne 25, 3) := by decide +kernel
theorem dX4_succeeds_204 : decode cX4_succeeds 204 = .ok (.aload_n 0, 1) := by decide +kernel
theorem dX4_succeeds_205 : decode cX4_succeeds 205 = .ok (.getfield 12, 3) := by decide +kernel
theorem dX4_succeeds_208 : decode cX4_succeeds 208 = .ok (.bipush 10, 2) := by decide +kernel
theorem dX4_succeeds_210 : decode cX4_succeeds 210 = .ok (.iload 4, 2) := by decide +kernel
theorem dX4_succeeds_212 : decode cX4_succeeds 212 = .ok (.imul, 1) := by decide +kernel
theorem dX4_succeeds_213 : decode cX4_succeeds 213 = .ok (.iload 5, 2) := by decide +kernel
theorem dX4_succeeds_215 : decode cX4_succeeds 215 = .ok (.iadd, 1) := by decide +kernel
theorem dX4_succeeds_216 : decode cX4_succeeds 216 = .ok (.invokevirtual 76, 3) := by decide +kernel
theorem dX4_succeeds_219 : decode cX4_succeeds 219 = .ok (.ifCond .eq 7, 3) := by decide +kernel
theorem dX4_succeeds_222 : decode cX4_succeeds 222 = .ok (.iconst 1, 1) := by decide +kernel
theorem dX4_succeeds_223 : decode cX4_succeeds 223 = .ok (.goto 4, 3) := by decide +kernel
theorem dX4_succeeds_226 : decode cX4_succeeds 226 = .ok (.iconst 0, 1) := by decide +kernel
theorem dX4_succeeds_227 : decode cX4_succeeds 227 = .ok (.ireturn, 1) := by decide +kernel
theorem dX4_succeeds_228 : decode cX4_succeeds 228 = .ok (.iload 5, 2) := by decide +kernel
theorem dX4_succeeds_230 : decode cX4_succeeds 230 = .ok (.ifCond .ne 18, 3) := by decide +kernel
theorem dX4_succeeds_233 : decode cX4_succeeds 233 = .ok (.aload_n 0, 1) := by decide +kernel
theorem dX4_succeeds_234 : decode cX4_succeeds 234 = .ok (.iload 4, 2) := by decide +kernel
theorem dX4_succeeds_236 : decode cX4_succeeds 236 = .ok (.iload_n 3, 1) := by decide +kernel
theorem dX4_succeeds_237 : decode cX4_succeeds 237 = .ok (.aload_n 2, 1) := by decide +kernel
theorem dX4_succeeds_238 : decode cX4_succeeds 238 = .ok (.invokevirtual 30, 3) := by decide +kernel
theorem dX4_succeeds_241 : decode cX4_succeeds 241 = .ok (.ifCond .eq 7, 3) := by decide +kernel
theorem dX4_succeeds_244 : decode cX4_succeeds 244 = .ok (.iconst 1, 1) := by decide +kernel
theorem dX4_succeeds_245 : decode cX4_succeeds 245 = .ok (.goto 4, 3) := by decide +kernel
theorem dX4_succeeds_248 : decode cX4_succeeds 248 = .ok (.iconst 0, 1) := by decide +kernel
theorem dX4_succeeds_249 : decode cX4_succeeds 249 = .ok (.ireturn, 1) := by decide +kernel
theorem dX4_succeeds_250 : decode cX4_succeeds 250 = .ok (.aload_n 2, 1) := by decide +kernel
theorem dX4_succeeds_251 : decode cX4_succeeds 251 = .ok (.aload_n 0, 1) := by decide +kernel
theorem dX4_succeeds_252 : decode cX4_succeeds 252 = .ok (.getfield 12, 3) := by decide +kernel
theorem dX4_succeeds_255 : decode cX4_succeeds 255 = .ok (.aload_n 0, 1) := by decide +kernel
theorem dX4_succeeds_256 : decode cX4_succeeds 256 = .ok (.getfield 12, 3) := by decide +kernel
theorem dX4_succeeds_259 : decode cX4_succeeds 259 = .ok (.invokevirtual 34, 3) := by decide +kernel
theorem dX4_succeeds_262 : decode cX4_succeeds 262 = .ok (.invokevirtual 38, 3) := by decide +kernel
theorem dX4_succeeds_265 : decode cX4_succeeds 265 = .ok (.iload_n 1, 1) := by decide +kernel
theorem dX4_succeeds_266 : decode cX4_succeeds 266 = .ok (.sipush 1000, 3) := by decide +kernel
theorem dX4_succeeds_269 : decode cX4_succeeds 269 = .ok (.irem, 1) := by decide +kernel
theorem dX4_succeeds_270 : decode cX4_succeeds 270 = .ok (.if_icmp .lt 7, 3) := by decide +kernel
theorem dX4_succeeds_273 : decode cX4_succeeds 273 = .ok (.iconst 1, 1) := by decide +kernel
theorem dX4_succeeds_274 : decode cX4_succeeds 274 = .ok (.goto 4, 3) := by decide +kernel
theorem dX4_succeeds_277 : decode cX4_succeeds 277 = .ok (.iconst 0, 1) := by decide +kernel
theorem dX4_succeeds_278 : decode cX4_succeeds 278 = .ok (.ireturn, 1) := by decide +kernel
theorem dX4_succeeds_279 : decode cX4_succeeds 279 = .ok (.aload_n 0, 1) := by decide +kernel
theorem dX4_succeeds_280 : decode cX4_succeeds 280 = .ok (.getfield 12, 3) := by decide +kernel
theorem dX4_succeeds_283 : decode cX4_succeeds 283 = .ok (.iload_n 3, 1) := by decide +kernel
theorem dX4_succeeds_284 : decode cX4_succeeds 284 = .ok (.invokevirtual 44, 3) := by decide +kernel
theorem dX4_succeeds_287 : decode cX4_succeeds 287 = .ok (.ifCond .eq 22, 3) := by decide +kernel
theorem dX4_succeeds_290 : decode cX4_succeeds 290 = .ok (.aload_n 0, 1) := by decide +kernel
theorem dX4_succeeds_291 : decode cX4_succeeds 291 = .ok (.getfield 12, 3) := by decide +kernel
theorem dX4_succeeds_294 : decode cX4_succeeds 294 = .ok (.iload_n 3, 1) := by decide +kernel
theorem dX4_succeeds_295 : decode cX4_succeeds 295 = .ok (.invokevirtual 79, 3) := by decide +kernel
theorem dX4_succeeds_298 : decode cX4_succeeds 298 = .ok (.iload_n 1, 1) := by decide +kernel
theorem dX4_succeeds_299 : decode cX4_succeeds 299 = .ok (.bipush 100, 2) := by decide +kernel
theorem dX4_succeeds_301 : decode cX4_succeeds 301 = .ok (.irem, 1) := by decide +kernel
theorem dX4_succeeds_302 : decode cX4_succeeds 302 = .ok (.if_icmp .lt 7, 3) := by decide +kernel
theorem dX4_succeeds_305 : decode cX4_succeeds 305 = .ok (.iconst 1, 1) := by decide +kernel
theorem dX4_succeeds_306 : decode cX4_succeeds 306 = .ok (.goto 4, 3) := by decide +kernel
theorem dX4_succeeds_309 : decode cX4_succeeds 309 = .ok (.iconst 0, 1) := by decide +kernel
theorem dX4_succeeds_310 : decode cX4_succeeds 310 = .ok (.ireturn, 1) := by decide +kernel
theorem dX4_succeeds_311 : decode cX4_succeeds 311 = .ok (.iconst 0, 1) := by decide +kernel
theorem dX4_succeeds_312 : decode cX4_succeeds 312 = .ok (.ireturn, 1) := by decide +kernel
set_option maxRecDepth 20000 in
theorem ggX4_simulated_X2_playerCount : GoodIn wsX4_simulated wsX2_playerCount := goodIn_r _ [8, 9, 137, 138, 139, 140, 141, 142, 143, 144, 145, 146, 147, 148, 149, 150, 151, 152, 153] (by decide +kernel) (by decide +kernel)
set_option maxRecDepth 20000 in
theorem gX4_simulated_X2_playerCount : GoodIn wsX4_simulated (wsV RX4 82 RX2 yX2_playerCount wsX2_playerCount) := goodIn_app (goodIn_of _ (by decide +kernel)) ggX4_simulated_X2_playerCount
set_option maxRecDepth 20000 in
theorem ggX4_simulated_X2_roleCount : GoodIn wsX4_simulated wsX2_roleCount := goodIn_r _ [13, 14, 137, 138, 139, 140, 141, 142, 143, 144, 145, 146, 147, 148, 149, 150, 151, 152, 153] (by decide +kernel) (by decide +kernel)
set_option maxRecDepth 20000 in
theorem gX4_simulated_X2_roleCount : GoodIn wsX4_simulated (wsV RX4 73 RX2 yX2_roleCount wsX2_roleCount) := goodIn_app (goodIn_of _ (by decide +kernel)) ggX4_simulated_X2_roleCount
set_option maxRecDepth 20000 in
theorem ggX4_simulated_X2_performedCount : GoodIn wsX4_simulated wsX2_performedCount := goodIn_r _ [18, 19, 137, 138, 139, 140, 141, 142, 143, 144, 145, 146, 147, 148, 149, 150, 151, 152, 153] (by decide +kernel) (by decide +kernel)
set_option maxRecDepth 20000 in
theorem gX4_simulated_X2_performedCount : GoodIn wsX4_simulated (wsV RX4 85 RX2 yX2_performedCount wsX2_performedCount) := goodIn_app (goodIn_of _ (by decide +kernel)) ggX4_simulated_X2_performedCount
set_option maxRecDepth 20000 in
theorem ggX4_simulated_X2_calledOffCount : GoodIn wsX4_simulated wsX2_calledOffCount := goodIn_r _ [23, 24, 137, 138, 139, 140, 141, 142, 143, 144, 145, 146, 147, 148, 149, 150, 151, 152, 153] (by decide +kernel) (by decide +kernel)
set_option maxRecDepth 20000 in
theorem gX4_simulated_X2_calledOffCount : GoodIn wsX4_simulated (wsV RX4 88 RX2 yX2_calledOffCount wsX2_calledOffCount) := goodIn_app (goodIn_of _ (by decide +kernel)) ggX4_simulated_X2_calledOffCount
set_option maxRecDepth 20000 in
theorem ggX4_simulated_X4_simulateDay : GoodIn wsX4_simulated wsX4_simulateDay := goodIn_r _ [29, 1, 4, 5, 6, 7, 8, 9, 30, 31, 32, 33, 34, 35, 36, 37, 38, 39, 40, 41, 42, 43, 14, 44, 45, 46, 47, 48, 49, 50, 51, 52, 53, 54, 55, 56, 57, 58, 59, 60, 61, 62, 63, 64, 65, 66, 11, 12, 13, 67, 68, 69, 70, 71, 72, 73, 74, 75, 76, 77, 78, 79, 80, 81, 82, 83, 84, 85, 86, 87, 88, 89, 90, 91, 92, 93, 94, 95, 96, 97, 98, 99, 100, 101, 102, 103, 104, 105, 106, 107, 108, 109, 110, 111, 112, 113, 114, 115, 116, 117, 118, 119, 24, 120, 121, 122, 123, 19, 124, 125, 126, 127, 128, 129, 130, 131, 132, 133, 134, 135, 136, 137, 138, 139, 140, 141, 142, 143, 144, 145, 146, 147, 148, 149, 150, 151, 152, 153, 154, 155, 156, 157, 158, 159] (by decide +kernel) (by decide +kernel)
set_option maxRecDepth 20000 in
theorem gX4_simulated_X4_simulateDay : GoodIn wsX4_simulated (wsV RX4 95 RX4 yX4_simulateDay wsX4_simulateDay) := goodIn_app (goodIn_of _ (by decide +kernel)) ggX4_simulated_X4_simulateDay
theorem dX4_simulated_0 : decode cX4_simulated 0 = .ok (.aload_n 0, 1) := by decide +kernel
theorem dX4_simulated_1 : decode cX4_simulated 1 = .ok (.getfield 12, 3) := by decide +kernel
theorem dX4_simulated_4 : decode cX4_simulated 4 = .ok (.invokevirtual 82, 3) := by decide +kernel
theorem dX4_simulated_7 : decode cX4_simulated 7 = .ok (.ifCond .eq 13, 3) := by decide +kernel
theorem dX4_simulated_10 : decode cX4_simulated 10 = .ok (.aload_n 0, 1) := by decide +kernel
