theorem dX6_pass_30 : decode cX6_pass 30 = .ok (.goto 4, 3) := by decide +kernel
theorem dX6_pass_33 : decode cX6_pass 33 = .ok (.iconst 0, 1) := by decide +kernel
theorem dX6_pass_34 : decode cX6_pass 34 = .ok (.putfield 22, 3) := by decide +kernel
theorem dX6_pass_37 : decode cX6_pass 37 = .ok (.aload_n 0, 1) := by decide +kernel
theorem dX6_pass_38 : decode cX6_pass 38 = .ok (.getfield 22, 3) := by decide +kernel
theorem dX6_pass_41 : decode cX6_pass 41 = .ok (.ifCond .le 5, 3) := by decide +kernel
theorem dX6_pass_44 : decode cX6_pass 44 = .ok (.iconst 0, 1) := by decide +kernel
theorem dX6_pass_45 : decode cX6_pass 45 = .ok (.ireturn, 1) := by decide +kernel
theorem dX6_pass_46 : decode cX6_pass 46 = .ok (.aload_n 0, 1) := by decide +kernel
theorem dX6_pass_47 : decode cX6_pass 47 = .ok (.invokevirtual 68, 3) := by decide +kernel
theorem dX6_pass_50 : decode cX6_pass 50 = .ok (.iconst 0, 1) := by decide +kernel
theorem dX6_pass_51 : decode cX6_pass 51 = .ok (.istore_n 2, 1) := by decide +kernel
theorem dX6_pass_52 : decode cX6_pass 52 = .ok (.iconst 0, 1) := by decide +kernel
theorem dX6_pass_53 : decode cX6_pass 53 = .ok (.istore_n 3, 1) := by decide +kernel
theorem dX6_pass_54 : decode cX6_pass 54 = .ok (.iload_n 3, 1) := by decide +kernel
theorem dX6_pass_55 : decode cX6_pass 55 = .ok (.iload_n 1, 1) := by decide +kernel
theorem dX6_pass_56 : decode cX6_pass 56 = .ok (.if_icmp .ge 20, 3) := by decide +kernel
theorem dX6_pass_59 : decode cX6_pass 59 = .ok (.aload_n 0, 1) := by decide +kernel
theorem dX6_pass_60 : decode cX6_pass 60 = .ok (.invokevirtual 154, 3) := by decide +kernel
theorem dX6_pass_63 : decode cX6_pass 63 = .ok (.istore 4, 2) := by decide +kernel
theorem dX6_pass_65 : decode cX6_pass 65 = .ok (.iload_n 2, 1) := by decide +kernel
theorem dX6_pass_66 : decode cX6_pass 66 = .ok (.iload 4, 2) := by decide +kernel
theorem dX6_pass_68 : decode cX6_pass 68 = .ok (.iadd, 1) := by decide +kernel
theorem dX6_pass_69 : decode cX6_pass 69 = .ok (.istore_n 2, 1) := by decide +kernel
theorem dX6_pass_70 : decode cX6_pass 70 = .ok (.iinc 3 1, 3) := by decide +kernel
theorem dX6_pass_73 : decode cX6_pass 73 = .ok (.goto (-19), 3) := by decide +kernel
theorem dX6_pass_76 : decode cX6_pass 76 = .ok (.iload_n 2, 1) := by decide +kernel
theorem dX6_pass_77 : decode cX6_pass 77 = .ok (.ireturn, 1) := by decide +kernel
theorem dX6_isSetting_0 : decode cX6_isSetting 0 = .ok (.iload_n 0, 1) := by decide +kernel
theorem dX6_isSetting_1 : decode cX6_isSetting 1 = .ok (.iconst 0, 1) := by decide +kernel
theorem dX6_isSetting_2 : decode cX6_isSetting 2 = .ok (.iconst 3, 1) := by decide +kernel
theorem dX6_isSetting_3 : decode cX6_isSetting 3 = .ok (.invokestatic 29, 3) := by decide +kernel
theorem dX6_isSetting_6 : decode cX6_isSetting 6 = .ok (.ireturn, 1) := by decide +kernel
theorem dX6_greatest_0 : decode cX6_greatest 0 = .ok (.iload_n 0, 1) := by decide +kernel
theorem dX6_greatest_1 : decode cX6_greatest 1 = .ok (.iconst 1, 1) := by decide +kernel
theorem dX6_greatest_2 : decode cX6_greatest 2 = .ok (.if_icmp .ne 8, 3) := by decide +kernel
theorem dX6_greatest_5 : decode cX6_greatest 5 = .ok (.bipush 100, 2) := by decide +kernel
theorem dX6_greatest_7 : decode cX6_greatest 7 = .ok (.goto 15, 3) := by decide +kernel
theorem dX6_greatest_10 : decode cX6_greatest 10 = .ok (.iload_n 0, 1) := by decide +kernel
theorem dX6_greatest_11 : decode cX6_greatest 11 = .ok (.iconst 2, 1) := by decide +kernel
theorem dX6_greatest_12 : decode cX6_greatest 12 = .ok (.if_icmp .ne 8, 3) := by decide +kernel
theorem dX6_greatest_15 : decode cX6_greatest 15 = .ok (.bipush 50, 2) := by decide +kernel
theorem dX6_greatest_17 : decode cX6_greatest 17 = .ok (.goto 5, 3) := by decide +kernel
theorem dX6_greatest_20 : decode cX6_greatest 20 = .ok (.bipush 60, 2) := by decide +kernel
theorem dX6_greatest_22 : decode cX6_greatest 22 = .ok (.ireturn, 1) := by decide +kernel
theorem dX6_set_0 : decode cX6_set 0 = .ok (.aload_n 0, 1) := by decide +kernel
theorem dX6_set_1 : decode cX6_set 1 = .ok (.iload_n 1, 1) := by decide +kernel
theorem dX6_set_2 : decode cX6_set 2 = .ok (.invokestatic 158, 3) := by decide +kernel
theorem dX6_set_5 : decode cX6_set 5 = .ok (.ifCond .ne 7, 3) := by decide +kernel
theorem dX6_set_8 : decode cX6_set 8 = .ok (.iconst 1, 1) := by decide +kernel
theorem dX6_set_9 : decode cX6_set 9 = .ok (.goto 20, 3) := by decide +kernel
theorem dX6_set_12 : decode cX6_set 12 = .ok (.iload_n 2, 1) := by decide +kernel
theorem dX6_set_13 : decode cX6_set 13 = .ok (.iconst 0, 1) := by decide +kernel
theorem dX6_set_14 : decode cX6_set 14 = .ok (.iload_n 1, 1) := by decide +kernel
theorem dX6_set_15 : decode cX6_set 15 = .ok (.invokestatic 161, 3) := by decide +kernel
theorem dX6_set_18 : decode cX6_set 18 = .ok (.invokestatic 29, 3) := by decide +kernel
theorem dX6_set_21 : decode cX6_set 21 = .ok (.ifCond .eq 7, 3) := by decide +kernel
theorem dX6_set_24 : decode cX6_set 24 = .ok (.iconst 0, 1) := by decide +kernel
theorem dX6_set_25 : decode cX6_set 25 = .ok (.goto 4, 3) := by decide +kernel
theorem dX6_set_28 : decode cX6_set 28 = .ok (.iconst 2, 1) := by decide +kernel
theorem dX6_set_29 : decode cX6_set 29 = .ok (.putfield 22, 3) := by decide +kernel
theorem dX6_set_32 : decode cX6_set 32 = .ok (.aload_n 0, 1) := by decide +kernel
theorem dX6_set_33 : decode cX6_set 33 = .ok (.getfield 22, 3) := by decide +kernel
theorem dX6_set_36 : decode cX6_set 36 = .ok (.ifCond .le 5, 3) := by decide +kernel
theorem dX6_set_39 : decode cX6_set 39 = .ok (.iconst 0, 1) := by decide +kernel
theorem dX6_set_40 : decode cX6_set 40 = .ok (.ireturn, 1) := by decide +kernel
theorem dX6_set_41 : decode cX6_set 41 = .ok (.aload_n 0, 1) := by decide +kernel
theorem dX6_set_42 : decode cX6_set 42 = .ok (.invokevirtual 68, 3) := by decide +kernel
theorem dX6_set_45 : decode cX6_set 45 = .ok (.aload_n 0, 1) := by decide +kernel
theorem dX6_set_46 : decode cX6_set 46 = .ok (.getfield 7, 3) := by decide +kernel
theorem dX6_set_49 : decode cX6_set 49 = .ok (.iload_n 1, 1) := by decide +kernel
theorem dX6_set_50 : decode cX6_set 50 = .ok (.iaload, 1) := by decide +kernel
theorem dX6_set_51 : decode cX6_set 51 = .ok (.istore_n 3, 1) := by decide +kernel
theorem dX6_set_52 : decode cX6_set 52 = .ok (.aload_n 0, 1) := by decide +kernel
theorem dX6_set_53 : decode cX6_set 53 = .ok (.getfield 7, 3) := by decide +kernel
theorem dX6_set_56 : decode cX6_set 56 = .ok (.iload_n 1, 1) := by decide +kernel
theorem dX6_set_57 : decode cX6_set 57 = .ok (.iload_n 2, 1) := by decide +kernel
theorem dX6_set_58 : decode cX6_set 58 = .ok (.iastore, 1) := by decide +kernel
theorem dX6_set_59 : decode cX6_set 59 = .ok (.iload_n 3, 1) := by decide +kernel
theorem dX6_set_60 : decode cX6_set 60 = .ok (.ireturn, 1) := by decide +kernel
theorem dX6_append_0 : decode cX6_append 0 = .ok (.aload_n 0, 1) := by decide +kernel
theorem dX6_append_1 : decode cX6_append 1 = .ok (.iload_n 1, 1) := by decide +kernel
theorem dX6_append_2 : decode cX6_append 2 = .ok (.bipush 33, 2) := by decide +kernel
theorem dX6_append_4 : decode cX6_append 4 = .ok (.bipush 126, 2) := by decide +kernel
theorem dX6_append_6 : decode cX6_append 6 = .ok (.invokestatic 29, 3) := by decide +kernel
theorem dX6_append_9 : decode cX6_append 9 = .ok (.ifCond .ne 7, 3) := by decide +kernel
theorem dX6_append_12 : decode cX6_append 12 = .ok (.iconst 1, 1) := by decide +kernel
theorem dX6_append_13 : decode cX6_append 13 = .ok (.goto 17, 3) := by decide +kernel
theorem dX6_append_16 : decode cX6_append 16 = .ok (.aload_n 0, 1) := by decide +kernel
theorem dX6_append_17 : decode cX6_append 17 = .ok (.getfield 164, 3) := by decide +kernel
theorem dX6_append_20 : decode cX6_append 20 = .ok (.bipush 60, 2) := by decide +kernel
theorem dX6_append_22 : decode cX6_append 22 = .ok (.if_icmp .ne 7, 3) := by decide +kernel
theorem dX6_append_25 : decode cX6_append 25 = .ok (.iconst 2, 1) := by decide +kernel
theorem dX6_append_26 : decode cX6_append 26 = .ok (.goto 4, 3) := by decide +kernel
theorem dX6_append_29 : decode cX6_append 29 = .ok (.iconst 0, 1) := by decide +kernel
theorem dX6_append_30 : decode cX6_append 30 = .ok (.putfield 22, 3) := by decide +kernel
theorem dX6_append_33 : decode cX6_append 33 = .ok (.aload_n 0, 1) := by decide +kernel
theorem dX6_append_34 : decode cX6_append 34 = .ok (.getfield 22, 3) := by decide +kernel
theorem dX6_append_37 : decode cX6_append 37 = .ok (.ifCond .le 5, 3) := by decide +kernel
theorem dX6_append_40 : decode cX6_append 40 = .ok (.iconst 0, 1) := by decide +kernel
theorem dX6_append_41 : decode cX6_append 41 = .ok (.ireturn, 1) := by decide +kernel
theorem dX6_append_42 : decode cX6_append 42 = .ok (.aload_n 0, 1) := by decide +kernel
theorem dX6_append_43 : decode cX6_append 43 = .ok (.getfield 16, 3) := by decide +kernel
theorem dX6_append_46 : decode cX6_append 46 = .ok (.aload_n 0, 1) := by decide +kernel
theorem dX6_append_47 : decode cX6_append 47 = .ok (.getfield 164, 3) := by decide +kernel
theorem dX6_append_50 : decode cX6_append 50 = .ok (.iload_n 1, 1) := by decide +kernel
theorem dX6_append_51 : decode cX6_append 51 = .ok (.iastore, 1) := by decide +kernel
theorem dX6_append_52 : decode cX6_append 52 = .ok (.aload_n 0, 1) := by decide +kernel
theorem dX6_append_53 : decode cX6_append 53 = .ok (.dup, 1) := by decide +kernel
theorem dX6_append_54 : decode cX6_append 54 = .ok (.getfield 164, 3) := by decide +kernel
theorem dX6_append_57 : decode cX6_append 57 = .ok (.iconst 1, 1) := by decide +kernel
theorem dX6_append_58 : decode cX6_append 58 = .ok (.iadd, 1) := by decide +kernel
theorem dX6_append_59 : decode cX6_append 59 = .ok (.putfield 164, 3) := by decide +kernel
theorem dX6_append_62 : decode cX6_append 62 = .ok (.aload_n 0, 1) := by decide +kernel
theorem dX6_append_63 : decode cX6_append 63 = .ok (.getfield 164, 3) := by decide +kernel
theorem dX6_append_66 : decode cX6_append 66 = .ok (.ireturn, 1) := by decide +kernel
theorem dX6_clearBuffer_0 : decode cX6_clearBuffer 0 = .ok (.aload_n 0, 1) := by decide +kernel
theorem dX6_clearBuffer_1 : decode cX6_clearBuffer 1 = .ok (.iconst 0, 1) := by decide +kernel
theorem dX6_clearBuffer_2 : decode cX6_clearBuffer 2 = .ok (.putfield 22, 3) := by decide +kernel
theorem dX6_clearBuffer_5 : decode cX6_clearBuffer 5 = .ok (.aload_n 0, 1) := by decide +kernel
theorem dX6_clearBuffer_6 : decode cX6_clearBuffer 6 = .ok (.getfield 164, 3) := by decide +kernel
theorem dX6_clearBuffer_9 : decode cX6_clearBuffer 9 = .ok (.istore_n 1, 1) := by decide +kernel
theorem dX6_clearBuffer_10 : decode cX6_clearBuffer 10 = .ok (.aload_n 0, 1) := by decide +kernel
theorem dX6_clearBuffer_11 : decode cX6_clearBuffer 11 = .ok (.iconst 0, 1) := by decide +kernel
theorem dX6_clearBuffer_12 : decode cX6_clearBuffer 12 = .ok (.putfield 164, 3) := by decide +kernel
theorem dX6_clearBuffer_15 : decode cX6_clearBuffer 15 = .ok (.iload_n 1, 1) := by decide +kernel
theorem dX6_clearBuffer_16 : decode cX6_clearBuffer 16 = .ok (.ireturn, 1) := by decide +kernel
theorem dX6_takesPlace_0 : decode cX6_takesPlace 0 = .ok (.aload_n 0, 1) := by decide +kernel
theorem dX6_takesPlace_1 : decode cX6_takesPlace 1 = .ok (.getfield 19, 3) := by decide +kernel
theorem dX6_takesPlace_4 : decode cX6_takesPlace 4 = .ok (.iconst 5, 1) := by decide +kernel
theorem dX6_takesPlace_5 : decode cX6_takesPlace 5 = .ok (.aload_n 0, 1) := by decide +kernel
theorem dX6_takesPlace_6 : decode cX6_takesPlace 6 = .ok (.getfield 167, 3) := by decide +kernel
theorem dX6_takesPlace_9 : decode cX6_takesPlace 9 = .ok (.imul, 1) := by decide +kernel
theorem dX6_takesPlace_10 : decode cX6_takesPlace 10 = .ok (.iaload, 1) := by decide +kernel
theorem dX6_takesPlace_11 : decode cX6_takesPlace 11 = .ok (.istore_n 2, 1) := by decide +kernel
theorem dX6_takesPlace_12 : decode cX6_takesPlace 12 = .ok (.iload_n 2, 1) := by decide +kernel
theorem dX6_takesPlace_13 : decode cX6_takesPlace 13 = .ok (.bipush 108, 2) := by decide +kernel
theorem dX6_takesPlace_15 : decode cX6_takesPlace 15 = .ok (.if_icmp .ne 19, 3) := by decide +kernel
theorem dX6_takesPlace_18 : decode cX6_takesPlace 18 = .ok (.aload_n 0, 1) := by decide +kernel
theorem dX6_takesPlace_19 : decode cX6_takesPlace 19 = .ok (.getfield 170, 3) := by decide +kernel
theorem dX6_takesPlace_22 : decode cX6_takesPlace 22 = .ok (.iconst 1, 1) := by decide +kernel
theorem dX6_takesPlace_23 : decode cX6_takesPlace 23 = .ok (.if_icmp .ne 7, 3) := by decide +kernel
theorem dX6_takesPlace_26 : decode cX6_takesPlace 26 = .ok (.iconst 1, 1) := by decide +kernel
theorem dX6_takesPlace_27 : decode cX6_takesPlace 27 = .ok (.goto 42, 3) := by decide +kernel
theorem dX6_takesPlace_30 : decode cX6_takesPlace 30 = .ok (.iconst 0, 1) := by decide +kernel
theorem dX6_takesPlace_31 : decode cX6_takesPlace 31 = .ok (.goto 38, 3) := by decide +kernel
theorem dX6_takesPlace_34 : decode cX6_takesPlace 34 = .ok (.iload_n 2, 1) := by decide +kernel
theorem dX6_takesPlace_35 : decode cX6_takesPlace 35 = .ok (.bipush 104, 2) := by decide +kernel
theorem dX6_takesPlace_37 : decode cX6_takesPlace 37 = .ok (.if_icmp .ne 19, 3) := by decide +kernel
theorem dX6_takesPlace_40 : decode cX6_takesPlace 40 = .ok (.aload_n 0, 1) := by decide +kernel
theorem dX6_takesPlace_41 : decode cX6_takesPlace 41 = .ok (.getfield 170, 3) := by decide +kernel
theorem dX6_takesPlace_44 : decode cX6_takesPlace 44 = .ok (.iconst 2, 1) := by decide +kernel
theorem dX6_takesPlace_45 : decode cX6_takesPlace 45 = .ok (.if_icmp .ne 7, 3) := by decide +kernel
theorem dX6_takesPlace_48 : decode cX6_takesPlace 48 = .ok (.iconst 1, 1) := by decide +kernel
theorem dX6_takesPlace_49 : decode cX6_takesPlace 49 = .ok (.goto 20, 3) := by decide +kernel
theorem dX6_takesPlace_52 : decode cX6_takesPlace 52 = .ok (.iconst 0, 1) := by decide +kernel
theorem dX6_takesPlace_53 : decode cX6_takesPlace 53 = .ok (.goto 16, 3) := by decide +kernel
theorem dX6_takesPlace_56 : decode cX6_takesPlace 56 = .ok (.aload_n 0, 1) := by decide +kernel
theorem dX6_takesPlace_57 : decode cX6_takesPlace 57 = .ok (.getfield 170, 3) := by decide +kernel
theorem dX6_takesPlace_60 : decode cX6_takesPlace 60 = .ok (.iconst 3, 1) := by decide +kernel
theorem dX6_takesPlace_61 : decode cX6_takesPlace 61 = .ok (.if_icmp .ne 7, 3) := by decide +kernel
theorem dX6_takesPlace_64 : decode cX6_takesPlace 64 = .ok (.iconst 1, 1) := by decide +kernel
theorem dX6_takesPlace_65 : decode cX6_takesPlace 65 = .ok (.goto 4, 3) := by decide +kernel
theorem dX6_takesPlace_68 : decode cX6_takesPlace 68 = .ok (.iconst 0, 1) := by decide +kernel
theorem dX6_takesPlace_69 : decode cX6_takesPlace 69 = .ok (.istore_n 3, 1) := by decide +kernel
theorem dX6_takesPlace_70 : decode cX6_takesPlace 70 = .ok (.aload_n 0, 1) := by decide +kernel
theorem dX6_takesPlace_71 : decode cX6_takesPlace 71 = .ok (.getfield 19, 3) := by decide +kernel
theorem dX6_takesPlace_74 : decode cX6_takesPlace 74 = .ok (.iconst 5, 1) := by decide +kernel
theorem dX6_takesPlace_75 : decode cX6_takesPlace 75 = .ok (.aload_n 0, 1) := by decide +kernel
theorem dX6_takesPlace_76 : decode cX6_takesPlace 76 = .ok (.getfield 167, 3) := by decide +kernel
theorem dX6_takesPlace_79 : decode cX6_takesPlace 79 = .ok (.imul, 1) := by decide +kernel
theorem dX6_takesPlace_80 : decode cX6_takesPlace 80 = .ok (.aload_n 0, 1) := by decide +kernel
theorem dX6_takesPlace_81 : decode cX6_takesPlace 81 = .ok (.getfield 170, 3) := by decide +kernel
theorem dX6_takesPlace_84 : decode cX6_takesPlace 84 = .ok (.iadd, 1) := by decide +kernel
theorem dX6_takesPlace_85 : decode cX6_takesPlace 85 = .ok (.iload_n 1, 1) := by decide +kernel
theorem dX6_takesPlace_86 : decode cX6_takesPlace 86 = .ok (.bipush 48, 2) := by decide +kernel
theorem dX6_takesPlace_88 : decode cX6_takesPlace 88 = .ok (.isub, 1) := by decide +kernel
theorem dX6_takesPlace_89 : decode cX6_takesPlace 89 = .ok (.iastore, 1) := by decide +kernel
theorem dX6_takesPlace_90 : decode cX6_takesPlace 90 = .ok (.aload_n 0, 1) := by decide +kernel
theorem dX6_takesPlace_91 : decode cX6_takesPlace 91 = .ok (.iload_n 3, 1) := by decide +kernel
theorem dX6_takesPlace_92 : decode cX6_takesPlace 92 = .ok (.ifCond .eq 7, 3) := by decide +kernel
theorem dX6_takesPlace_95 : decode cX6_takesPlace 95 = .ok (.iconst 4, 1) := by decide +kernel
theorem dX6_takesPlace_96 : decode cX6_takesPlace 96 = .ok (.goto 9, 3) := by decide +kernel
theorem dX6_takesPlace_99 : decode cX6_takesPlace 99 = .ok (.aload_n 0, 1) := by decide +kernel
theorem dX6_takesPlace_100 : decode cX6_takesPlace 100 = .ok (.getfield 170, 3) := by decide +kernel
theorem dX6_takesPlace_103 : decode cX6_takesPlace 103 = .ok (.iconst 1, 1) := by decide +kernel
theorem dX6_takesPlace_104 : decode cX6_takesPlace 104 = .ok (.iadd, 1) := by decide +kernel
theorem dX6_takesPlace_105 : decode cX6_takesPlace 105 = .ok (.putfield 170, 3) := by decide +kernel
theorem dX6_takesPlace_108 : decode cX6_takesPlace 108 = .ok (.iload_n 1, 1) := by decide +kernel
theorem dX6_takesPlace_109 : decode cX6_takesPlace 109 = .ok (.bipush 48, 2) := by decide +kernel
theorem dX6_takesPlace_111 : decode cX6_takesPlace 111 = .ok (.bipush 51, 2) := by decide +kernel
theorem dX6_takesPlace_113 : decode cX6_takesPlace 113 = .ok (.invokestatic 29, 3) := by decide +kernel
theorem dX6_takesPlace_116 : decode cX6_takesPlace 116 = .ok (.ireturn, 1) := by decide +kernel
theorem dX6_takesDigit_0 : decode cX6_takesDigit 0 = .ok (.aload_n 0, 1) := by decide +kernel
theorem dX6_takesDigit_1 : decode cX6_takesDigit 1 = .ok (.getfield 173, 3) := by decide +kernel
theorem dX6_takesDigit_4 : decode cX6_takesDigit 4 = .ok (.iconst (-1), 1) := by decide +kernel
theorem dX6_takesDigit_5 : decode cX6_takesDigit 5 = .ok (.if_icmp .ne 7, 3) := by decide +kernel
theorem dX6_takesDigit_8 : decode cX6_takesDigit 8 = .ok (.iload_n 1, 1) := by decide +kernel
theorem dX6_takesDigit_9 : decode cX6_takesDigit 9 = .ok (.goto 12, 3) := by decide +kernel
theorem dX6_takesDigit_12 : decode cX6_takesDigit 12 = .ok (.bipush 10, 2) := by decide +kernel
theorem dX6_takesDigit_14 : decode cX6_takesDigit 14 = .ok (.aload_n 0, 1) := by decide +kernel
theorem dX6_takesDigit_15 : decode cX6_takesDigit 15 = .ok (.getfield 173, 3) := by decide +kernel
theorem dX6_takesDigit_18 : decode cX6_takesDigit 18 = .ok (.imul, 1) := by decide +kernel
theorem dX6_takesDigit_19 : decode cX6_takesDigit 19 = .ok (.iload_n 1, 1) := by decide +kernel
theorem dX6_takesDigit_20 : decode cX6_takesDigit 20 = .ok (.iadd, 1) := by decide +kernel
theorem dX6_takesDigit_21 : decode cX6_takesDigit 21 = .ok (.istore_n 2, 1) := by decide +kernel
theorem dX6_takesDigit_22 : decode cX6_takesDigit 22 = .ok (.iload_n 1, 1) := by decide +kernel
theorem dX6_takesDigit_23 : decode cX6_takesDigit 23 = .ok (.iconst 0, 1) := by decide +kernel
theorem dX6_takesDigit_24 : decode cX6_takesDigit 24 = .ok (.bipush 9, 2) := by decide +kernel
theorem dX6_takesDigit_26 : decode cX6_takesDigit 26 = .ok (.invokestatic 29, 3) := by decide +kernel
theorem dX6_takesDigit_29 : decode cX6_takesDigit 29 = .ok (.ifCond .eq 14, 3) := by decide +kernel
theorem dX6_takesDigit_32 : decode cX6_takesDigit 32 = .ok (.iload_n 2, 1) := by decide +kernel
theorem dX6_takesDigit_33 : decode cX6_takesDigit 33 = .ok (.invokestatic 62, 3) := by decide +kernel
theorem dX6_takesDigit_36 : decode cX6_takesDigit 36 = .ok (.ifCond .eq 7, 3) := by decide +kernel
theorem dX6_takesDigit_39 : decode cX6_takesDigit 39 = .ok (.iconst 1, 1) := by decide +kernel
theorem dX6_takesDigit_40 : decode cX6_takesDigit 40 = .ok (.goto 4, 3) := by decide +kernel
theorem dX6_takesDigit_43 : decode cX6_takesDigit 43 = .ok (.iconst 0, 1) := by decide +kernel
theorem dX6_takesDigit_44 : decode cX6_takesDigit 44 = .ok (.istore_n 3, 1) := by decide +kernel
theorem dX6_takesDigit_45 : decode cX6_takesDigit 45 = .ok (.aload_n 0, 1) := by decide +kernel
theorem dX6_takesDigit_46 : decode cX6_takesDigit 46 = .ok (.iload_n 3, 1) := by decide +kernel
theorem dX6_takesDigit_47 : decode cX6_takesDigit 47 = .ok (.ifCond .eq 7, 3) := by decide +kernel
theorem dX6_takesDigit_50 : decode cX6_takesDigit 50 = .ok (.iload_n 2, 1) := by decide +kernel
theorem dX6_takesDigit_51 : decode cX6_takesDigit 51 = .ok (.goto 7, 3) := by decide +kernel
theorem dX6_takesDigit_54 : decode cX6_takesDigit 54 = .ok (.aload_n 0, 1) := by decide +kernel
theorem dX6_takesDigit_55 : decode cX6_takesDigit 55 = .ok (.getfield 173, 3) := by decide +kernel
theorem dX6_takesDigit_58 : decode cX6_takesDigit 58 = .ok (.putfield 173, 3) := by decide +kernel
theorem dX6_takesDigit_61 : decode cX6_takesDigit 61 = .ok (.aload_n 0, 1) := by decide +kernel
theorem dX6_takesDigit_62 : decode cX6_takesDigit 62 = .ok (.getfield 19, 3) := by decide +kernel
theorem dX6_takesDigit_65 : decode cX6_takesDigit 65 = .ok (.iconst 5, 1) := by decide +kernel
theorem dX6_takesDigit_66 : decode cX6_takesDigit 66 = .ok (.aload_n 0, 1) := by decide +kernel
theorem dX6_takesDigit_67 : decode cX6_takesDigit 67 = .ok (.getfield 167, 3) := by decide +kernel
theorem dX6_takesDigit_70 : decode cX6_takesDigit 70 = .ok (.imul, 1) := by decide +kernel
theorem dX6_takesDigit_71 : decode cX6_takesDigit 71 = .ok (.iconst 4, 1) := by decide +kernel
theorem dX6_takesDigit_72 : decode cX6_takesDigit 72 = .ok (.iadd, 1) := by decide +kernel
theorem dX6_takesDigit_73 : decode cX6_takesDigit 73 = .ok (.aload_n 0, 1) := by decide +kernel
theorem dX6_takesDigit_74 : decode cX6_takesDigit 74 = .ok (.getfield 173, 3) := by decide +kernel
theorem dX6_takesDigit_77 : decode cX6_takesDigit 77 = .ok (.iastore, 1) := by decide +kernel
theorem dX6_takesDigit_78 : decode cX6_takesDigit 78 = .ok (.iload_n 3, 1) := by decide +kernel
theorem dX6_takesDigit_79 : decode cX6_takesDigit 79 = .ok (.ireturn, 1) := by decide +kernel
theorem dX6_takes_0 : decode cX6_takes 0 = .ok (.aload_n 0, 1) := by decide +kernel
theorem dX6_takes_1 : decode cX6_takes 1 = .ok (.getfield 170, 3) := by decide +kernel
theorem dX6_takes_4 : decode cX6_takes 4 = .ok (.lookupswitch 123 #[(0, 36), (4, 82), (5, 120)], 36) := by decide +kernel
theorem dX6_takes_40 : decode cX6_takes 40 = .ok (.aload_n 0, 1) := by decide +kernel
theorem dX6_takes_41 : decode cX6_takes 41 = .ok (.getfield 19, 3) := by decide +kernel
theorem dX6_takes_44 : decode cX6_takes 44 = .ok (.iconst 5, 1) := by decide +kernel
theorem dX6_takes_45 : decode cX6_takes 45 = .ok (.aload_n 0, 1) := by decide +kernel
theorem dX6_takes_46 : decode cX6_takes 46 = .ok (.getfield 167, 3) := by decide +kernel
theorem dX6_takes_49 : decode cX6_takes 49 = .ok (.imul, 1) := by decide +kernel
theorem dX6_takes_50 : decode cX6_takes 50 = .ok (.iload_n 1, 1) := by decide +kernel
theorem dX6_takes_51 : decode cX6_takes 51 = .ok (.iastore, 1) := by decide +kernel
theorem dX6_takes_52 : decode cX6_takes 52 = .ok (.aload_n 0, 1) := by decide +kernel
theorem dX6_takes_53 : decode cX6_takes 53 = .ok (.iconst (-1), 1) := by decide +kernel
theorem dX6_takes_54 : decode cX6_takes 54 = .ok (.putfield 173, 3) := by decide +kernel
theorem dX6_takes_57 : decode cX6_takes 57 = .ok (.aload_n 0, 1) := by decide +kernel
theorem dX6_takes_58 : decode cX6_takes 58 = .ok (.iconst 1, 1) := by decide +kernel
theorem dX6_takes_59 : decode cX6_takes 59 = .ok (.putfield 170, 3) := by decide +kernel
theorem dX6_takes_62 : decode cX6_takes 62 = .ok (.iload_n 1, 1) := by decide +kernel
theorem dX6_takes_63 : decode cX6_takes 63 = .ok (.bipush 108, 2) := by decide +kernel
theorem dX6_takes_65 : decode cX6_takes 65 = .ok (.if_icmp .eq 15, 3) := by decide +kernel
theorem dX6_takes_68 : decode cX6_takes 68 = .ok (.iload_n 1, 1) := by decide +kernel
theorem dX6_takes_69 : decode cX6_takes 69 = .ok (.bipush 120, 2) := by decide +kernel
theorem dX6_takes_71 : decode cX6_takes 71 = .ok (.if_icmp .eq 9, 3) := by decide +kernel
theorem dX6_takes_74 : decode cX6_takes 74 = .ok (.iload_n 1, 1) := by decide +kernel
theorem dX6_takes_75 : decode cX6_takes 75 = .ok (.bipush 104, 2) := by decide +kernel
theorem dX6_takes_77 : decode cX6_takes 77 = .ok (.if_icmp .ne 7, 3) := by decide +kernel
theorem dX6_takes_80 : decode cX6_takes 80 = .ok (.iconst 1, 1) := by decide +kernel
theorem dX6_takes_81 : decode cX6_takes 81 = .ok (.goto 4, 3) := by decide +kernel
theorem dX6_takes_84 : decode cX6_takes 84 = .ok (.iconst 0, 1) := by decide +kernel
theorem dX6_takes_85 : decode cX6_takes 85 = .ok (.ireturn, 1) := by decide +kernel
theorem dX6_takes_86 : decode cX6_takes 86 = .ok (.aload_n 0, 1) := by decide +kernel
theorem dX6_takes_87 : decode cX6_takes 87 = .ok (.iconst 5, 1) := by decide +kernel
theorem dX6_takes_88 : decode cX6_takes 88 = .ok (.putfield 170, 3) := by decide +kernel
theorem dX6_takes_91 : decode cX6_takes 91 = .ok (.iload_n 1, 1) := by decide +kernel
theorem dX6_takes_92 : decode cX6_takes 92 = .ok (.aload_n 0, 1) := by decide +kernel
theorem dX6_takes_93 : decode cX6_takes 93 = .ok (.getfield 19, 3) := by decide +kernel
theorem dX6_takes_96 : decode cX6_takes 96 = .ok (.iconst 5, 1) := by decide +kernel
theorem dX6_takes_97 : decode cX6_takes 97 = .ok (.aload_n 0, 1) := by decide +kernel
theorem dX6_takes_98 : decode cX6_takes 98 = .ok (.getfield 167, 3) := by decide +kernel
theorem dX6_takes_101 : decode cX6_takes 101 = .ok (.imul, 1) := by decide +kernel
theorem dX6_takes_102 : decode cX6_takes 102 = .ok (.iaload, 1) := by decide +kernel
theorem dX6_takes_103 : decode cX6_takes 103 = .ok (.bipush 108, 2) := by decide +kernel
theorem dX6_takes_105 : decode cX6_takes 105 = .ok (.if_icmp .ne 8, 3) := by decide +kernel
theorem dX6_takes_108 : decode cX6_takes 108 = .ok (.bipush 43, 2) := by decide +kernel
theorem dX6_takes_110 : decode cX6_takes 110 = .ok (.goto 5, 3) := by decide +kernel
theorem dX6_takes_113 : decode cX6_takes 113 = .ok (.bipush 58, 2) := by decide +kernel
theorem dX6_takes_115 : decode cX6_takes 115 = .ok (.if_icmp .ne 7, 3) := by decide +kernel
theorem dX6_takes_118 : decode cX6_takes 118 = .ok (.iconst 1, 1) := by decide +kernel
theorem dX6_takes_119 : decode cX6_takes 119 = .ok (.goto 4, 3) := by decide +kernel
theorem dX6_takes_122 : decode cX6_takes 122 = .ok (.iconst 0, 1) := by decide +kernel
theorem dX6_takes_123 : decode cX6_takes 123 = .ok (.ireturn, 1) := by decide +kernel
theorem dX6_takes_124 : decode cX6_takes 124 = .ok (.goto 9, 3) := by decide +kernel
theorem dX6_takes_127 : decode cX6_takes 127 = .ok (.aload_n 0, 1) := by decide +kernel
theorem dX6_takes_128 : decode cX6_takes 128 = .ok (.iload_n 1, 1) := by decide +kernel
theorem dX6_takes_129 : decode cX6_takes 129 = .ok (.invokevirtual 176, 3) := by decide +kernel
theorem dX6_takes_132 : decode cX6_takes 132 = .ok (.ireturn, 1) := by decide +kernel
theorem dX6_takes_133 : decode cX6_takes 133 = .ok (.iload_n 1, 1) := by decide +kernel
theorem dX6_takes_134 : decode cX6_takes 134 = .ok (.bipush 59, 2) := by decide +kernel
theorem dX6_takes_136 : decode cX6_takes 136 = .ok (.if_icmp .ne 28, 3) := by decide +kernel
theorem dX6_takes_139 : decode cX6_takes 139 = .ok (.aload_n 0, 1) := by decide +kernel
theorem dX6_takes_140 : decode cX6_takes 140 = .ok (.getfield 173, 3) := by decide +kernel
theorem dX6_takes_143 : decode cX6_takes 143 = .ok (.iconst (-1), 1) := by decide +kernel
theorem dX6_takes_144 : decode cX6_takes 144 = .ok (.if_icmp .eq 20, 3) := by decide +kernel
theorem dX6_takes_147 : decode cX6_takes 147 = .ok (.aload_n 0, 1) := by decide +kernel
theorem dX6_takes_148 : decode cX6_takes 148 = .ok (.dup, 1) := by decide +kernel
theorem dX6_takes_149 : decode cX6_takes 149 = .ok (.getfield 167, 3) := by decide +kernel
theorem dX6_takes_152 : decode cX6_takes 152 = .ok (.iconst 1, 1) := by decide +kernel
theorem dX6_takes_153 : decode cX6_takes 153 = .ok (.iadd, 1) := by decide +kernel
theorem dX6_takes_154 : decode cX6_takes 154 = .ok (.putfield 167, 3) := by decide +kernel
theorem dX6_takes_157 : decode cX6_takes 157 = .ok (.aload_n 0, 1) := by decide +kernel
theorem dX6_takes_158 : decode cX6_takes 158 = .ok (.iconst 0, 1) := by decide +kernel
theorem dX6_takes_159 : decode cX6_takes 159 = .ok (.putfield 170, 3) := by decide +kernel
theorem dX6_takes_162 : decode cX6_takes 162 = .ok (.iconst 1, 1) := by decide +kernel
theorem dX6_takes_163 : decode cX6_takes 163 = .ok (.ireturn, 1) := by decide +kernel
theorem dX6_takes_164 : decode cX6_takes 164 = .ok (.aload_n 0, 1) := by decide +kernel
theorem dX6_takes_165 : decode cX6_takes 165 = .ok (.iload_n 1, 1) := by decide +kernel
theorem dX6_takes_166 : decode cX6_takes 166 = .ok (.bipush 48, 2) := by decide +kernel
theorem dX6_takes_168 : decode cX6_takes 168 = .ok (.isub, 1) := by decide +kernel
theorem dX6_takes_169 : decode cX6_takes 169 = .ok (.invokevirtual 179, 3) := by decide +kernel
theorem dX6_takes_172 : decode cX6_takes 172 = .ok (.ireturn, 1) := by decide +kernel
theorem dX6_rightUpTo_0 : decode cX6_rightUpTo 0 = .ok (.aload_n 0, 1) := by decide +kernel
theorem dX6_rightUpTo_1 : decode cX6_rightUpTo 1 = .ok (.iconst 0, 1) := by decide +kernel
theorem dX6_rightUpTo_2 : decode cX6_rightUpTo 2 = .ok (.putfield 167, 3) := by decide +kernel
theorem dX6_rightUpTo_5 : decode cX6_rightUpTo 5 = .ok (.aload_n 0, 1) := by decide +kernel
theorem dX6_rightUpTo_6 : decode cX6_rightUpTo 6 = .ok (.iconst 0, 1) := by decide +kernel
theorem dX6_rightUpTo_7 : decode cX6_rightUpTo 7 = .ok (.putfield 170, 3) := by decide +kernel
theorem dX6_rightUpTo_10 : decode cX6_rightUpTo 10 = .ok (.iconst 0, 1) := by decide +kernel
theorem dX6_rightUpTo_11 : decode cX6_rightUpTo 11 = .ok (.istore_n 1, 1) := by decide +kernel
theorem dX6_rightUpTo_12 : decode cX6_rightUpTo 12 = .ok (.iload_n 1, 1) := by decide +kernel
theorem dX6_rightUpTo_13 : decode cX6_rightUpTo 13 = .ok (.aload_n 0, 1) := by decide +kernel
theorem dX6_rightUpTo_14 : decode cX6_rightUpTo 14 = .ok (.getfield 164, 3) := by decide +kernel
theorem dX6_rightUpTo_17 : decode cX6_rightUpTo 17 = .ok (.if_icmp .ge 22, 3) := by decide +kernel
theorem dX6_rightUpTo_20 : decode cX6_rightUpTo 20 = .ok (.aload_n 0, 1) := by decide +kernel
theorem dX6_rightUpTo_21 : decode cX6_rightUpTo 21 = .ok (.aload_n 0, 1) := by decide +kernel
theorem dX6_rightUpTo_22 : decode cX6_rightUpTo 22 = .ok (.getfield 16, 3) := by decide +kernel
theorem dX6_rightUpTo_25 : decode cX6_rightUpTo 25 = .ok (.iload_n 1, 1) := by decide +kernel
theorem dX6_rightUpTo_26 : decode cX6_rightUpTo 26 = .ok (.iaload, 1) := by decide +kernel
theorem dX6_rightUpTo_27 : decode cX6_rightUpTo 27 = .ok (.invokevirtual 182, 3) := by decide +kernel
theorem dX6_rightUpTo_30 : decode cX6_rightUpTo 30 = .ok (.ifCond .eq 9, 3) := by decide +kernel
theorem dX6_rightUpTo_33 : decode cX6_rightUpTo 33 = .ok (.iinc 1 1, 3) := by decide +kernel
theorem dX6_rightUpTo_36 : decode cX6_rightUpTo 36 = .ok (.goto (-24), 3) := by decide +kernel
theorem dX6_rightUpTo_39 : decode cX6_rightUpTo 39 = .ok (.iload_n 1, 1) := by decide +kernel
theorem dX6_rightUpTo_40 : decode cX6_rightUpTo 40 = .ok (.ireturn, 1) := by decide +kernel
theorem dX6_firstError_0 : decode cX6_firstError 0 = .ok (.aload_n 0, 1) := by decide +kernel
theorem dX6_firstError_1 : decode cX6_firstError 1 = .ok (.iconst 0, 1) := by decide +kernel
theorem dX6_firstError_2 : decode cX6_firstError 2 = .ok (.putfield 22, 3) := by decide +kernel
theorem dX6_firstError_5 : decode cX6_firstError 5 = .ok (.aload_n 0, 1) := by decide +kernel
theorem dX6_firstError_6 : decode cX6_firstError 6 = .ok (.invokevirtual 185, 3) := by decide +kernel
theorem dX6_firstError_9 : decode cX6_firstError 9 = .ok (.ireturn, 1) := by decide +kernel
theorem dX6_carries_0 : decode cX6_carries 0 = .ok (.aload_n 0, 1) := by decide +kernel
theorem dX6_carries_1 : decode cX6_carries 1 = .ok (.getfield 19, 3) := by decide +kernel
theorem dX6_carries_4 : decode cX6_carries 4 = .ok (.iconst 5, 1) := by decide +kernel
theorem dX6_carries_5 : decode cX6_carries 5 = .ok (.iload_n 1, 1) := by decide +kernel
theorem dX6_carries_6 : decode cX6_carries 6 = .ok (.imul, 1) := by decide +kernel
theorem dX6_carries_7 : decode cX6_carries 7 = .ok (.iaload, 1) := by decide +kernel
theorem dX6_carries_8 : decode cX6_carries 8 = .ok (.istore_n 2, 1) := by decide +kernel
theorem dX6_carries_9 : decode cX6_carries 9 = .ok (.aload_n 0, 1) := by decide +kernel
theorem dX6_carries_10 : decode cX6_carries 10 = .ok (.getfield 19, 3) := by decide +kernel
theorem dX6_carries_13 : decode cX6_carries 13 = .ok (.iconst 5, 1) := by decide +kernel
theorem dX6_carries_14 : decode cX6_carries 14 = .ok (.iload_n 1, 1) := by decide +kernel
theorem dX6_carries_15 : decode cX6_carries 15 = .ok (.imul, 1) := by decide +kernel
theorem dX6_carries_16 : decode cX6_carries 16 = .ok (.iconst 1, 1) := by decide +kernel
theorem dX6_carries_17 : decode cX6_carries 17 = .ok (.iadd, 1) := by decide +kernel
theorem dX6_carries_18 : decode cX6_carries 18 = .ok (.iaload, 1) := by decide +kernel
theorem dX6_carries_19 : decode cX6_carries 19 = .ok (.istore_n 3, 1) := by decide +kernel
theorem dX6_carries_20 : decode cX6_carries 20 = .ok (.aload_n 0, 1) := by decide +kernel
theorem dX6_carries_21 : decode cX6_carries 21 = .ok (.getfield 19, 3) := by decide +kernel
theorem dX6_carries_24 : decode cX6_carries 24 = .ok (.iconst 5, 1) := by decide +kernel
theorem dX6_carries_25 : decode cX6_carries 25 = .ok (.iload_n 1, 1) := by decide +kernel
theorem dX6_carries_26 : decode cX6_carries 26 = .ok (.imul, 1) := by decide +kernel
theorem dX6_carries_27 : decode cX6_carries 27 = .ok (.iconst 2, 1) := by decide +kernel
theorem dX6_carries_28 : decode cX6_carries 28 = .ok (.iadd, 1) := by decide +kernel
theorem dX6_carries_29 : decode cX6_carries 29 = .ok (.iaload, 1) := by decide +kernel
theorem dX6_carries_30 : decode cX6_carries 30 = .ok (.istore 4, 2) := by decide +kernel
theorem dX6_carries_32 : decode cX6_carries 32 = .ok (.aload_n 0, 1) := by decide +kernel
theorem dX6_carries_33 : decode cX6_carries 33 = .ok (.getfield 19, 3) := by decide +kernel
theorem dX6_carries_36 : decode cX6_carries 36 = .ok (.iconst 5, 1) := by decide +kernel
theorem dX6_carries_37 : decode cX6_carries 37 = .ok (.iload_n 1, 1) := by decide +kernel
theorem dX6_carries_38 : decode cX6_carries 38 = .ok (.imul, 1) := by decide +kernel
theorem dX6_carries_39 : decode cX6_carries 39 = .ok (.iconst 3, 1) := by decide +kernel
theorem dX6_carries_40 : decode cX6_carries 40 = .ok (.iadd, 1) := by decide +kernel
theorem dX6_carries_41 : decode cX6_carries 41 = .ok (.iaload, 1) := by decide +kernel
theorem dX6_carries_42 : decode cX6_carries 42 = .ok (.istore 5, 2) := by decide +kernel
theorem dX6_carries_44 : decode cX6_carries 44 = .ok (.aload_n 0, 1) := by decide +kernel
theorem dX6_carries_45 : decode cX6_carries 45 = .ok (.getfield 19, 3) := by decide +kernel
theorem dX6_carries_48 : decode cX6_carries 48 = .ok (.iconst 5, 1) := by decide +kernel
theorem dX6_carries_49 : decode cX6_carries 49 = .ok (.iload_n 1, 1) := by decide +kernel
theorem dX6_carries_50 : decode cX6_carries 50 = .ok (.imul, 1) := by decide +kernel
theorem dX6_carries_51 : decode cX6_carries 51 = .ok (.iconst 4, 1) := by decide +kernel
theorem dX6_carries_52 : decode cX6_carries 52 = .ok (.iadd, 1) := by decide +kernel
theorem dX6_carries_53 : decode cX6_carries 53 = .ok (.iaload, 1) := by decide +kernel
theorem dX6_carries_54 : decode cX6_carries 54 = .ok (.istore 6, 2) := by decide +kernel
theorem dX6_carries_56 : decode cX6_carries 56 = .ok (.iload_n 2, 1) := by decide +kernel
theorem dX6_carries_57 : decode cX6_carries 57 = .ok (.bipush 108, 2) := by decide +kernel
theorem dX6_carries_59 : decode cX6_carries 59 = .ok (.if_icmp .ne 31, 3) := by decide +kernel
theorem dX6_carries_62 : decode cX6_carries 62 = .ok (.aload_n 0, 1) := by decide +kernel
theorem dX6_carries_63 : decode cX6_carries 63 = .ok (.iload_n 3, 1) := by decide +kernel
theorem dX6_carries_64 : decode cX6_carries 64 = .ok (.iload 6, 2) := by decide +kernel
theorem dX6_carries_66 : decode cX6_carries 66 = .ok (.invokevirtual 65, 3) := by decide +kernel
theorem dX6_carries_69 : decode cX6_carries 69 = .ok (.istore 7, 2) := by decide +kernel
theorem dX6_carries_71 : decode cX6_carries 71 = .ok (.aload_n 0, 1) := by decide +kernel
theorem dX6_carries_72 : decode cX6_carries 72 = .ok (.iload_n 3, 1) := by decide +kernel
theorem dX6_carries_73 : decode cX6_carries 73 = .ok (.iload 7, 2) := by decide +kernel
theorem dX6_carries_75 : decode cX6_carries 75 = .ok (.ifCond .eq 8, 3) := by decide +kernel
theorem dX6_carries_78 : decode cX6_carries 78 = .ok (.iload 6, 2) := by decide +kernel
theorem dX6_carries_80 : decode cX6_carries 80 = .ok (.goto 4, 3) := by decide +kernel
theorem dX6_carries_83 : decode cX6_carries 83 = .ok (.iconst 0, 1) := by decide +kernel
theorem dX6_carries_84 : decode cX6_carries 84 = .ok (.invokevirtual 71, 3) := by decide +kernel
theorem dX6_carries_87 : decode cX6_carries 87 = .ok (.iload 7, 2) := by decide +kernel
theorem dX6_carries_89 : decode cX6_carries 89 = .ok (.ireturn, 1) := by decide +kernel
theorem dX6_carries_90 : decode cX6_carries 90 = .ok (.iload_n 2, 1) := by decide +kernel
theorem dX6_carries_91 : decode cX6_carries 91 = .ok (.bipush 120, 2) := by decide +kernel
theorem dX6_carries_93 : decode cX6_carries 93 = .ok (.if_icmp .ne 17, 3) := by decide +kernel
theorem dX6_carries_96 : decode cX6_carries 96 = .ok (.aload_n 0, 1) := by decide +kernel
theorem dX6_carries_97 : decode cX6_carries 97 = .ok (.iload_n 3, 1) := by decide +kernel
theorem dX6_carries_98 : decode cX6_carries 98 = .ok (.iload 4, 2) := by decide +kernel
theorem dX6_carries_100 : decode cX6_carries 100 = .ok (.iload 5, 2) := by decide +kernel
theorem dX6_carries_102 : decode cX6_carries 102 = .ok (.iload 6, 2) := by decide +kernel
theorem dX6_carries_104 : decode cX6_carries 104 = .ok (.invokevirtual 105, 3) := by decide +kernel
theorem dX6_carries_107 : decode cX6_carries 107 = .ok (.goto 12, 3) := by decide +kernel
theorem dX6_carries_110 : decode cX6_carries 110 = .ok (.aload_n 0, 1) := by decide +kernel
theorem dX6_carries_111 : decode cX6_carries 111 = .ok (.iload_n 3, 1) := by decide +kernel
theorem dX6_carries_112 : decode cX6_carries 112 = .ok (.iload 4, 2) := by decide +kernel
theorem dX6_carries_114 : decode cX6_carries 114 = .ok (.iload 6, 2) := by decide +kernel
theorem dX6_carries_116 : decode cX6_carries 116 = .ok (.invokevirtual 114, 3) := by decide +kernel
theorem dX6_carries_119 : decode cX6_carries 119 = .ok (.ifCond .ne 7, 3) := by decide +kernel
theorem dX6_carries_122 : decode cX6_carries 122 = .ok (.iconst 1, 1) := by decide +kernel
theorem dX6_carries_123 : decode cX6_carries 123 = .ok (.goto 4, 3) := by decide +kernel
theorem dX6_carries_126 : decode cX6_carries 126 = .ok (.iconst 0, 1) := by decide +kernel
theorem dX6_carries_127 : decode cX6_carries 127 = .ok (.istore 7, 2) := by decide +kernel
theorem dX6_carries_129 : decode cX6_carries 129 = .ok (.iload 7, 2) := by decide +kernel
theorem dX6_carries_131 : decode cX6_carries 131 = .ok (.ifCond .ne 7, 3) := by decide +kernel
theorem dX6_carries_134 : decode cX6_carries 134 = .ok (.iconst 0, 1) := by decide +kernel
theorem dX6_carries_135 : decode cX6_carries 135 = .ok (.goto 32, 3) := by decide +kernel
theorem dX6_carries_138 : decode cX6_carries 138 = .ok (.iload_n 2, 1) := by decide +kernel
theorem dX6_carries_139 : decode cX6_carries 139 = .ok (.bipush 120, 2) := by decide +kernel
theorem dX6_carries_141 : decode cX6_carries 141 = .ok (.if_icmp .ne 17, 3) := by decide +kernel
theorem dX6_carries_144 : decode cX6_carries 144 = .ok (.aload_n 0, 1) := by decide +kernel
theorem dX6_carries_145 : decode cX6_carries 145 = .ok (.iload_n 3, 1) := by decide +kernel
theorem dX6_carries_146 : decode cX6_carries 146 = .ok (.iload 4, 2) := by decide +kernel
theorem dX6_carries_148 : decode cX6_carries 148 = .ok (.iload 5, 2) := by decide +kernel
theorem dX6_carries_150 : decode cX6_carries 150 = .ok (.iload 6, 2) := by decide +kernel
theorem dX6_carries_152 : decode cX6_carries 152 = .ok (.invokevirtual 108, 3) := by decide +kernel
theorem dX6_carries_155 : decode cX6_carries 155 = .ok (.goto 12, 3) := by decide +kernel
theorem dX6_carries_158 : decode cX6_carries 158 = .ok (.aload_n 0, 1) := by decide +kernel
theorem dX6_carries_159 : decode cX6_carries 159 = .ok (.iload_n 3, 1) := by decide +kernel
theorem dX6_carries_160 : decode cX6_carries 160 = .ok (.iload 4, 2) := by decide +kernel
theorem dX6_carries_162 : decode cX6_carries 162 = .ok (.iload 6, 2) := by decide +kernel
theorem dX6_carries_164 : decode cX6_carries 164 = .ok (.invokevirtual 117, 3) := by decide +kernel
theorem dX6_carries_167 : decode cX6_carries 167 = .ok (.istore 8, 2) := by decide +kernel
theorem dX6_carries_169 : decode cX6_carries 169 = .ok (.iload 7, 2) := by decide +kernel
theorem dX6_carries_171 : decode cX6_carries 171 = .ok (.ireturn, 1) := by decide +kernel
theorem dX6_run_0 : decode cX6_run 0 = .ok (.aload_n 0, 1) := by decide +kernel
theorem dX6_run_1 : decode cX6_run 1 = .ok (.invokevirtual 185, 3) := by decide +kernel
theorem dX6_run_4 : decode cX6_run 4 = .ok (.aload_n 0, 1) := by decide +kernel
theorem dX6_run_5 : decode cX6_run 5 = .ok (.getfield 164, 3) := by decide +kernel
theorem dX6_run_8 : decode cX6_run 8 = .ok (.if_icmp .ne 23, 3) := by decide +kernel
theorem dX6_run_11 : decode cX6_run 11 = .ok (.aload_n 0, 1) := by decide +kernel
theorem dX6_run_12 : decode cX6_run 12 = .ok (.getfield 170, 3) := by decide +kernel
theorem dX6_run_15 : decode cX6_run 15 = .ok (.iconst 5, 1) := by decide +kernel
theorem dX6_run_16 : decode cX6_run 16 = .ok (.if_icmp .ne 15, 3) := by decide +kernel
theorem dX6_run_19 : decode cX6_run 19 = .ok (.aload_n 0, 1) := by decide +kernel
theorem dX6_run_20 : decode cX6_run 20 = .ok (.getfield 173, 3) := by decide +kernel
theorem dX6_run_23 : decode cX6_run 23 = .ok (.iconst (-1), 1) := by decide +kernel
theorem dX6_run_24 : decode cX6_run 24 = .ok (.if_icmp .eq 7, 3) := by decide +kernel
theorem dX6_run_27 : decode cX6_run 27 = .ok (.iconst 1, 1) := by decide +kernel
theorem dX6_run_28 : decode cX6_run 28 = .ok (.goto 4, 3) := by decide +kernel
theorem dX6_run_31 : decode cX6_run 31 = .ok (.iconst 0, 1) := by decide +kernel
theorem dX6_run_32 : decode cX6_run 32 = .ok (.istore_n 1, 1) := by decide +kernel
theorem dX6_run_33 : decode cX6_run 33 = .ok (.aload_n 0, 1) := by decide +kernel
theorem dX6_run_34 : decode cX6_run 34 = .ok (.iload_n 1, 1) := by decide +kernel
theorem dX6_run_35 : decode cX6_run 35 = .ok (.ifCond .eq 7, 3) := by decide +kernel
theorem dX6_run_38 : decode cX6_run 38 = .ok (.iconst 0, 1) := by decide +kernel
theorem dX6_run_39 : decode cX6_run 39 = .ok (.goto 4, 3) := by decide +kernel
theorem dX6_run_42 : decode cX6_run 42 = .ok (.iconst 1, 1) := by decide +kernel
theorem dX6_run_43 : decode cX6_run 43 = .ok (.putfield 22, 3) := by decide +kernel
theorem dX6_run_46 : decode cX6_run 46 = .ok (.aload_n 0, 1) := by decide +kernel
theorem dX6_run_47 : decode cX6_run 47 = .ok (.getfield 22, 3) := by decide +kernel
theorem dX6_run_50 : decode cX6_run 50 = .ok (.ifCond .le 5, 3) := by decide +kernel
theorem dX6_run_53 : decode cX6_run 53 = .ok (.iconst 0, 1) := by decide +kernel
theorem dX6_run_54 : decode cX6_run 54 = .ok (.ireturn, 1) := by decide +kernel
theorem dX6_run_55 : decode cX6_run 55 = .ok (.aload_n 0, 1) := by decide +kernel
theorem dX6_run_56 : decode cX6_run 56 = .ok (.invokevirtual 68, 3) := by decide +kernel
theorem dX6_run_59 : decode cX6_run 59 = .ok (.aload_n 0, 1) := by decide +kernel
theorem dX6_run_60 : decode cX6_run 60 = .ok (.iconst 0, 1) := by decide +kernel
theorem dX6_run_61 : decode cX6_run 61 = .ok (.putfield 164, 3) := by decide +kernel
theorem dX6_run_64 : decode cX6_run 64 = .ok (.iconst 0, 1) := by decide +kernel
theorem dX6_run_65 : decode cX6_run 65 = .ok (.istore_n 2, 1) := by decide +kernel
theorem dX6_run_66 : decode cX6_run 66 = .ok (.iload_n 2, 1) := by decide +kernel
theorem dX6_run_67 : decode cX6_run 67 = .ok (.aload_n 0, 1) := by decide +kernel
theorem dX6_run_68 : decode cX6_run 68 = .ok (.getfield 167, 3) := by decide +kernel
theorem dX6_run_71 : decode cX6_run 71 = .ok (.if_icmp .gt 17, 3) := by decide +kernel
theorem dX6_run_74 : decode cX6_run 74 = .ok (.aload_n 0, 1) := by decide +kernel
theorem dX6_run_75 : decode cX6_run 75 = .ok (.iload_n 2, 1) := by decide +kernel
theorem dX6_run_76 : decode cX6_run 76 = .ok (.invokevirtual 188, 3) := by decide +kernel
theorem dX6_run_79 : decode cX6_run 79 = .ok (.ifCond .eq 9, 3) := by decide +kernel
theorem dX6_run_82 : decode cX6_run 82 = .ok (.iinc 2 1, 3) := by decide +kernel
theorem dX6_run_85 : decode cX6_run 85 = .ok (.goto (-19), 3) := by decide +kernel
theorem dX6_run_88 : decode cX6_run 88 = .ok (.iload_n 2, 1) := by decide +kernel
theorem dX6_run_89 : decode cX6_run 89 = .ok (.ireturn, 1) := by decide +kernel
theorem dX6_undo_0 : decode cX6_undo 0 = .ok (.aload_n 0, 1) := by decide +kernel
theorem dX6_undo_1 : decode cX6_undo 1 = .ok (.aload_n 0, 1) := by decide +kernel
theorem dX6_undo_2 : decode cX6_undo 2 = .ok (.getfield 26, 3) := by decide +kernel
theorem dX6_undo_5 : decode cX6_undo 5 = .ok (.ifCond .le 7, 3) := by decide +kernel
theorem dX6_undo_8 : decode cX6_undo 8 = .ok (.iconst 0, 1) := by decide +kernel
theorem dX6_undo_9 : decode cX6_undo 9 = .ok (.goto 4, 3) := by decide +kernel
theorem dX6_undo_12 : decode cX6_undo 12 = .ok (.iconst 1, 1) := by decide +kernel
theorem dX6_undo_13 : decode cX6_undo 13 = .ok (.putfield 22, 3) := by decide +kernel
theorem dX6_undo_16 : decode cX6_undo 16 = .ok (.aload_n 0, 1) := by decide +kernel
theorem dX6_undo_17 : decode cX6_undo 17 = .ok (.getfield 22, 3) := by decide +kernel
theorem dX6_undo_20 : decode cX6_undo 20 = .ok (.ifCond .le 5, 3) := by decide +kernel
theorem dX6_undo_23 : decode cX6_undo 23 = .ok (.iconst 0, 1) := by decide +kernel
theorem dX6_undo_24 : decode cX6_undo 24 = .ok (.ireturn, 1) := by decide +kernel
theorem dX6_undo_25 : decode cX6_undo 25 = .ok (.aload_n 0, 1) := by decide +kernel
theorem dX6_undo_26 : decode cX6_undo 26 = .ok (.dup, 1) := by decide +kernel
theorem dX6_undo_27 : decode cX6_undo 27 = .ok (.getfield 26, 3) := by decide +kernel
theorem dX6_undo_30 : decode cX6_undo 30 = .ok (.iconst 1, 1) := by decide +kernel
theorem dX6_undo_31 : decode cX6_undo 31 = .ok (.isub, 1) := by decide +kernel
theorem dX6_undo_32 : decode cX6_undo 32 = .ok (.putfield 26, 3) := by decide +kernel
theorem dX6_undo_35 : decode cX6_undo 35 = .ok (.iconst 0, 1) := by decide +kernel
theorem dX6_undo_36 : decode cX6_undo 36 = .ok (.istore_n 1, 1) := by decide +kernel
theorem dX6_undo_37 : decode cX6_undo 37 = .ok (.iload_n 1, 1) := by decide +kernel
theorem dX6_undo_38 : decode cX6_undo 38 = .ok (.sipush 196, 3) := by decide +kernel
theorem dX6_undo_41 : decode cX6_undo 41 = .ok (.if_icmp .ge 30, 3) := by decide +kernel
theorem dX6_undo_44 : decode cX6_undo 44 = .ok (.aload_n 0, 1) := by decide +kernel
theorem dX6_undo_45 : decode cX6_undo 45 = .ok (.getfield 7, 3) := by decide +kernel
theorem dX6_undo_48 : decode cX6_undo 48 = .ok (.iload_n 1, 1) := by decide +kernel
theorem dX6_undo_49 : decode cX6_undo 49 = .ok (.aload_n 0, 1) := by decide +kernel
theorem dX6_undo_50 : decode cX6_undo 50 = .ok (.getfield 13, 3) := by decide +kernel
theorem dX6_undo_53 : decode cX6_undo 53 = .ok (.sipush 196, 3) := by decide +kernel
theorem dX6_undo_56 : decode cX6_undo 56 = .ok (.aload_n 0, 1) := by decide +kernel
theorem dX6_undo_57 : decode cX6_undo 57 = .ok (.getfield 26, 3) := by decide +kernel
theorem dX6_undo_60 : decode cX6_undo 60 = .ok (.imul, 1) := by decide +kernel
theorem dX6_undo_61 : decode cX6_undo 61 = .ok (.iload_n 1, 1) := by decide +kernel
theorem dX6_undo_62 : decode cX6_undo 62 = .ok (.iadd, 1) := by decide +kernel
theorem dX6_undo_63 : decode cX6_undo 63 = .ok (.iaload, 1) := by decide +kernel
theorem dX6_undo_64 : decode cX6_undo 64 = .ok (.iastore, 1) := by decide +kernel
theorem dX6_undo_65 : decode cX6_undo 65 = .ok (.iinc 1 1, 3) := by decide +kernel
theorem dX6_undo_68 : decode cX6_undo 68 = .ok (.goto (-31), 3) := by decide +kernel
theorem dX6_undo_71 : decode cX6_undo 71 = .ok (.aload_n 0, 1) := by decide +kernel
theorem dX6_undo_72 : decode cX6_undo 72 = .ok (.getfield 26, 3) := by decide +kernel
theorem dX6_undo_75 : decode cX6_undo 75 = .ok (.ireturn, 1) := by decide +kernel
theorem dX6_creditIn_0 : decode cX6_creditIn 0 = .ok (.iconst 0, 1) := by decide +kernel
theorem dX6_creditIn_1 : decode cX6_creditIn 1 = .ok (.istore_n 3, 1) := by decide +kernel
theorem dX6_creditIn_2 : decode cX6_creditIn 2 = .ok (.iconst 0, 1) := by decide +kernel
theorem dX6_creditIn_3 : decode cX6_creditIn 3 = .ok (.istore 4, 2) := by decide +kernel
theorem dX6_creditIn_5 : decode cX6_creditIn 5 = .ok (.iload 4, 2) := by decide +kernel
theorem dX6_creditIn_7 : decode cX6_creditIn 7 = .ok (.aload_n 0, 1) := by decide +kernel
theorem dX6_creditIn_8 : decode cX6_creditIn 8 = .ok (.getfield 7, 3) := by decide +kernel
theorem dX6_creditIn_11 : decode cX6_creditIn 11 = .ok (.bipush 9, 2) := by decide +kernel
theorem dX6_creditIn_13 : decode cX6_creditIn 13 = .ok (.iaload, 1) := by decide +kernel
theorem dX6_creditIn_14 : decode cX6_creditIn 14 = .ok (.if_icmp .ge 63, 3) := by decide +kernel
theorem dX6_creditIn_17 : decode cX6_creditIn 17 = .ok (.aload_n 0, 1) := by decide +kernel
theorem dX6_creditIn_18 : decode cX6_creditIn 18 = .ok (.sipush 136, 3) := by decide +kernel
theorem dX6_creditIn_21 : decode cX6_creditIn 21 = .ok (.iconst 5, 1) := by decide +kernel
theorem dX6_creditIn_22 : decode cX6_creditIn 22 = .ok (.iload 4, 2) := by decide +kernel
theorem dX6_creditIn_24 : decode cX6_creditIn 24 = .ok (.imul, 1) := by decide +kernel
theorem dX6_creditIn_25 : decode cX6_creditIn 25 = .ok (.iadd, 1) := by decide +kernel
theorem dX6_creditIn_26 : decode cX6_creditIn 26 = .ok (.iload_n 1, 1) := by decide +kernel
theorem dX6_creditIn_27 : decode cX6_creditIn 27 = .ok (.iload_n 2, 1) := by decide +kernel
theorem dX6_creditIn_28 : decode cX6_creditIn 28 = .ok (.invokevirtual 49, 3) := by decide +kernel
theorem dX6_creditIn_31 : decode cX6_creditIn 31 = .ok (.ifCond .eq 18, 3) := by decide +kernel
theorem dX6_creditIn_34 : decode cX6_creditIn 34 = .ok (.aload_n 0, 1) := by decide +kernel
theorem dX6_creditIn_35 : decode cX6_creditIn 35 = .ok (.iload 4, 2) := by decide +kernel
theorem dX6_creditIn_37 : decode cX6_creditIn 37 = .ok (.iconst 4, 1) := by decide +kernel
theorem dX6_creditIn_38 : decode cX6_creditIn 38 = .ok (.invokevirtual 127, 3) := by decide +kernel
theorem dX6_creditIn_41 : decode cX6_creditIn 41 = .ok (.iconst 1, 1) := by decide +kernel
theorem dX6_creditIn_42 : decode cX6_creditIn 42 = .ok (.if_icmp .ne 7, 3) := by decide +kernel
theorem dX6_creditIn_45 : decode cX6_creditIn 45 = .ok (.iconst 1, 1) := by decide +kernel
theorem dX6_creditIn_46 : decode cX6_creditIn 46 = .ok (.goto 4, 3) := by decide +kernel
theorem dX6_creditIn_49 : decode cX6_creditIn 49 = .ok (.iconst 0, 1) := by decide +kernel
theorem dX6_creditIn_50 : decode cX6_creditIn 50 = .ok (.istore 5, 2) := by decide +kernel
theorem dX6_creditIn_52 : decode cX6_creditIn 52 = .ok (.iload_n 3, 1) := by decide +kernel
theorem dX6_creditIn_53 : decode cX6_creditIn 53 = .ok (.iload 5, 2) := by decide +kernel
theorem dX6_creditIn_55 : decode cX6_creditIn 55 = .ok (.ifCond .eq 13, 3) := by decide +kernel
theorem dX6_creditIn_58 : decode cX6_creditIn 58 = .ok (.aload_n 0, 1) := by decide +kernel
theorem dX6_creditIn_59 : decode cX6_creditIn 59 = .ok (.iload 4, 2) := by decide +kernel
theorem dX6_creditIn_61 : decode cX6_creditIn 61 = .ok (.iconst 2, 1) := by decide +kernel
theorem dX6_creditIn_62 : decode cX6_creditIn 62 = .ok (.invokevirtual 127, 3) := by decide +kernel
theorem dX6_creditIn_65 : decode cX6_creditIn 65 = .ok (.goto 4, 3) := by decide +kernel
theorem dX6_creditIn_68 : decode cX6_creditIn 68 = .ok (.iconst 0, 1) := by decide +kernel
theorem dX6_creditIn_69 : decode cX6_creditIn 69 = .ok (.iadd, 1) := by decide +kernel
theorem dX6_creditIn_70 : decode cX6_creditIn 70 = .ok (.istore_n 3, 1) := by decide +kernel
theorem dX6_creditIn_71 : decode cX6_creditIn 71 = .ok (.iinc 4 1, 3) := by decide +kernel
theorem dX6_creditIn_74 : decode cX6_creditIn 74 = .ok (.goto (-69), 3) := by decide +kernel
theorem dX6_creditIn_77 : decode cX6_creditIn 77 = .ok (.iload_n 3, 1) := by decide +kernel
theorem dX6_creditIn_78 : decode cX6_creditIn 78 = .ok (.ireturn, 1) := by decide +kernel
theorem dX6_purseNow_0 : decode cX6_purseNow 0 = .ok (.iload_n 3, 1) := by decide +kernel
theorem dX6_purseNow_1 : decode cX6_purseNow 1 = .ok (.tableswitch 108 0 6 #[43, 51, 58, 65, 73, 80, 101], 43) := by decide +kernel
theorem dX6_purseNow_44 : decode cX6_purseNow 44 = .ok (.aload_n 0, 1) := by decide +kernel
theorem dX6_purseNow_45 : decode cX6_purseNow 45 = .ok (.iload_n 1, 1) := by decide +kernel
theorem dX6_purseNow_46 : decode cX6_purseNow 46 = .ok (.iload_n 2, 1) := by decide +kernel
theorem dX6_purseNow_47 : decode cX6_purseNow 47 = .ok (.iconst 0, 1) := by decide +kernel
theorem dX6_purseNow_48 : decode cX6_purseNow 48 = .ok (.invokevirtual 55, 3) := by decide +kernel
theorem dX6_purseNow_51 : decode cX6_purseNow 51 = .ok (.ireturn, 1) := by decide +kernel
theorem dX6_purseNow_52 : decode cX6_purseNow 52 = .ok (.aload_n 0, 1) := by decide +kernel
theorem dX6_purseNow_53 : decode cX6_purseNow 53 = .ok (.iload_n 1, 1) := by decide +kernel
theorem dX6_purseNow_54 : decode cX6_purseNow 54 = .ok (.iload_n 2, 1) := by decide +kernel
theorem dX6_purseNow_55 : decode cX6_purseNow 55 = .ok (.invokevirtual 59, 3) := by decide +kernel
theorem dX6_purseNow_58 : decode cX6_purseNow 58 = .ok (.ireturn, 1) := by decide +kernel
theorem dX6_purseNow_59 : decode cX6_purseNow 59 = .ok (.aload_n 0, 1) := by decide +kernel
theorem dX6_purseNow_60 : decode cX6_purseNow 60 = .ok (.iload_n 1, 1) := by decide +kernel
theorem dX6_purseNow_61 : decode cX6_purseNow 61 = .ok (.iload_n 2, 1) := by decide +kernel
theorem dX6_purseNow_62 : decode cX6_purseNow 62 = .ok (.invokevirtual 102, 3) := by decide +kernel
theorem dX6_purseNow_65 : decode cX6_purseNow 65 = .ok (.ireturn, 1) := by decide +kernel
theorem dX6_purseNow_66 : decode cX6_purseNow 66 = .ok (.aload_n 0, 1) := by decide +kernel
theorem dX6_purseNow_67 : decode cX6_purseNow 67 = .ok (.iload_n 1, 1) := by decide +kernel
theorem dX6_purseNow_68 : decode cX6_purseNow 68 = .ok (.iload_n 2, 1) := by decide +kernel
theorem dX6_purseNow_69 : decode cX6_purseNow 69 = .ok (.iconst 1, 1) := by decide +kernel
theorem dX6_purseNow_70 : decode cX6_purseNow 70 = .ok (.invokevirtual 55, 3) := by decide +kernel
theorem dX6_purseNow_73 : decode cX6_purseNow 73 = .ok (.ireturn, 1) := by decide +kernel
theorem dX6_purseNow_74 : decode cX6_purseNow 74 = .ok (.aload_n 0, 1) := by decide +kernel
theorem dX6_purseNow_75 : decode cX6_purseNow 75 = .ok (.iload_n 1, 1) := by decide +kernel
theorem dX6_purseNow_76 : decode cX6_purseNow 76 = .ok (.iload_n 2, 1) := by decide +kernel
theorem dX6_purseNow_77 : decode cX6_purseNow 77 = .ok (.invokevirtual 88, 3) := by decide +kernel
theorem dX6_purseNow_80 : decode cX6_purseNow 80 = .ok (.ireturn, 1) := by decide +kernel
theorem dX6_purseNow_81 : decode cX6_purseNow 81 = .ok (.aload_n 0, 1) := by decide +kernel
theorem dX6_purseNow_82 : decode cX6_purseNow 82 = .ok (.iload_n 1, 1) := by decide +kernel
theorem dX6_purseNow_83 : decode cX6_purseNow 83 = .ok (.iload_n 2, 1) := by decide +kernel
theorem dX6_purseNow_84 : decode cX6_purseNow 84 = .ok (.invokevirtual 80, 3) := by decide +kernel
theorem dX6_purseNow_87 : decode cX6_purseNow 87 = .ok (.ifCond .eq 13, 3) := by decide +kernel
theorem dX6_purseNow_90 : decode cX6_purseNow 90 = .ok (.aload_n 0, 1) := by decide +kernel
theorem dX6_purseNow_91 : decode cX6_purseNow 91 = .ok (.iload_n 1, 1) := by decide +kernel
theorem dX6_purseNow_92 : decode cX6_purseNow 92 = .ok (.iload_n 2, 1) := by decide +kernel
theorem dX6_purseNow_93 : decode cX6_purseNow 93 = .ok (.iconst 3, 1) := by decide +kernel
theorem dX6_purseNow_94 : decode cX6_purseNow 94 = .ok (.invokevirtual 55, 3) := by decide +kernel
theorem dX6_purseNow_97 : decode cX6_purseNow 97 = .ok (.goto 4, 3) := by decide +kernel
theorem dX6_purseNow_100 : decode cX6_purseNow 100 = .ok (.iconst (-1), 1) := by decide +kernel
theorem dX6_purseNow_101 : decode cX6_purseNow 101 = .ok (.ireturn, 1) := by decide +kernel
theorem dX6_purseNow_102 : decode cX6_purseNow 102 = .ok (.aload_n 0, 1) := by decide +kernel
theorem dX6_purseNow_103 : decode cX6_purseNow 103 = .ok (.iload_n 1, 1) := by decide +kernel
theorem dX6_purseNow_104 : decode cX6_purseNow 104 = .ok (.iload_n 2, 1) := by decide +kernel
theorem dX6_purseNow_105 : decode cX6_purseNow 105 = .ok (.invokevirtual 191, 3) := by decide +kernel
theorem dX6_purseNow_108 : decode cX6_purseNow 108 = .ok (.ireturn, 1) := by decide +kernel
theorem dX6_purseNow_109 : decode cX6_purseNow 109 = .ok (.aload_n 0, 1) := by decide +kernel
theorem dX6_purseNow_110 : decode cX6_purseNow 110 = .ok (.iload_n 1, 1) := by decide +kernel
theorem dX6_purseNow_111 : decode cX6_purseNow 111 = .ok (.iload_n 2, 1) := by decide +kernel
theorem dX6_purseNow_112 : decode cX6_purseNow 112 = .ok (.iconst 4, 1) := by decide +kernel
theorem dX6_purseNow_113 : decode cX6_purseNow 113 = .ok (.invokevirtual 55, 3) := by decide +kernel
theorem dX6_purseNow_116 : decode cX6_purseNow 116 = .ok (.ireturn, 1) := by decide +kernel
theorem dX6_purse_0 : decode cX6_purse 0 = .ok (.aload_n 0, 1) := by decide +kernel
theorem dX6_purse_1 : decode cX6_purse 1 = .ok (.iload_n 1, 1) := by decide +kernel
theorem dX6_purse_2 : decode cX6_purse 2 = .ok (.iload_n 2, 1) := by decide +kernel
theorem dX6_purse_3 : decode cX6_purse 3 = .ok (.invokestatic 40, 3) := by decide +kernel
theorem dX6_purse_6 : decode cX6_purse 6 = .ok (.ifCond .ne 7, 3) := by decide +kernel
theorem dX6_purse_9 : decode cX6_purse 9 = .ok (.iconst 1, 1) := by decide +kernel
theorem dX6_purse_10 : decode cX6_purse 10 = .ok (.goto 18, 3) := by decide +kernel
theorem dX6_purse_13 : decode cX6_purse 13 = .ok (.iload_n 3, 1) := by decide +kernel
theorem dX6_purse_14 : decode cX6_purse 14 = .ok (.iconst 0, 1) := by decide +kernel
theorem dX6_purse_15 : decode cX6_purse 15 = .ok (.bipush 7, 2) := by decide +kernel
theorem dX6_purse_17 : decode cX6_purse 17 = .ok (.invokestatic 29, 3) := by decide +kernel
theorem dX6_purse_20 : decode cX6_purse 20 = .ok (.ifCond .eq 7, 3) := by decide +kernel
theorem dX6_purse_23 : decode cX6_purse 23 = .ok (.iconst 0, 1) := by decide +kernel
theorem dX6_purse_24 : decode cX6_purse 24 = .ok (.goto 4, 3) := by decide +kernel
theorem dX6_purse_27 : decode cX6_purse 27 = .ok (.iconst 2, 1) := by decide +kernel
theorem dX6_purse_28 : decode cX6_purse 28 = .ok (.putfield 22, 3) := by decide +kernel
theorem dX6_purse_31 : decode cX6_purse 31 = .ok (.aload_n 0, 1) := by decide +kernel
theorem dX6_purse_32 : decode cX6_purse 32 = .ok (.getfield 22, 3) := by decide +kernel
theorem dX6_purse_35 : decode cX6_purse 35 = .ok (.ifCond .le 7, 3) := by decide +kernel
theorem dX6_purse_38 : decode cX6_purse 38 = .ok (.iconst 0, 1) := by decide +kernel
theorem dX6_purse_39 : decode cX6_purse 39 = .ok (.goto 10, 3) := by decide +kernel
theorem dX6_purse_42 : decode cX6_purse 42 = .ok (.aload_n 0, 1) := by decide +kernel
theorem dX6_purse_43 : decode cX6_purse 43 = .ok (.iload_n 1, 1) := by decide +kernel
theorem dX6_purse_44 : decode cX6_purse 44 = .ok (.iload_n 2, 1) := by decide +kernel
theorem dX6_purse_45 : decode cX6_purse 45 = .ok (.iload_n 3, 1) := by decide +kernel
theorem dX6_purse_46 : decode cX6_purse 46 = .ok (.invokevirtual 194, 3) := by decide +kernel
theorem dX6_purse_49 : decode cX6_purse 49 = .ok (.ireturn, 1) := by decide +kernel
theorem dX6_held_0 : decode cX6_held 0 = .ok (.aload_n 0, 1) := by decide +kernel
theorem dX6_held_1 : decode cX6_held 1 = .ok (.aload_n 0, 1) := by decide +kernel
theorem dX6_held_2 : decode cX6_held 2 = .ok (.iload_n 1, 1) := by decide +kernel
theorem dX6_held_3 : decode cX6_held 3 = .ok (.invokevirtual 120, 3) := by decide +kernel
theorem dX6_held_6 : decode cX6_held 6 = .ok (.ifCond .ne 7, 3) := by decide +kernel
theorem dX6_held_9 : decode cX6_held 9 = .ok (.iconst 1, 1) := by decide +kernel
theorem dX6_held_10 : decode cX6_held 10 = .ok (.goto 17, 3) := by decide +kernel
theorem dX6_held_13 : decode cX6_held 13 = .ok (.iload_n 2, 1) := by decide +kernel
theorem dX6_held_14 : decode cX6_held 14 = .ok (.iconst 0, 1) := by decide +kernel
theorem dX6_held_15 : decode cX6_held 15 = .ok (.iconst 4, 1) := by decide +kernel
theorem dX6_held_16 : decode cX6_held 16 = .ok (.invokestatic 29, 3) := by decide +kernel
theorem dX6_held_19 : decode cX6_held 19 = .ok (.ifCond .eq 7, 3) := by decide +kernel
theorem dX6_held_22 : decode cX6_held 22 = .ok (.iconst 0, 1) := by decide +kernel
