theorem dX5_letGo_9 : decode cX5_letGo 9 = .ok (.aload_n 0, 1) := by decide +kernel
theorem dX5_letGo_10 : decode cX5_letGo 10 = .ok (.invokevirtual 50, 3) := by decide +kernel
theorem dX5_letGo_13 : decode cX5_letGo 13 = .ok (.aload_n 0, 1) := by decide +kernel
theorem dX5_letGo_14 : decode cX5_letGo 14 = .ok (.getfield 10, 3) := by decide +kernel
theorem dX5_letGo_17 : decode cX5_letGo 17 = .ok (.iload_n 1, 1) := by decide +kernel
theorem dX5_letGo_18 : decode cX5_letGo 18 = .ok (.invokevirtual 132, 3) := by decide +kernel
theorem dX5_letGo_21 : decode cX5_letGo 21 = .ok (.iload_n 2, 1) := by decide +kernel
theorem dX5_letGo_22 : decode cX5_letGo 22 = .ok (.ireturn, 1) := by decide +kernel
theorem dX5_dispute_0 : decode cX5_dispute 0 = .ok (.aload_n 0, 1) := by decide +kernel
theorem dX5_dispute_1 : decode cX5_dispute 1 = .ok (.iload_n 1, 1) := by decide +kernel
theorem dX5_dispute_2 : decode cX5_dispute 2 = .ok (.invokevirtual 138, 3) := by decide +kernel
theorem dX5_dispute_5 : decode cX5_dispute 5 = .ok (.astore_n 2, 1) := by decide +kernel
theorem dX5_dispute_6 : decode cX5_dispute 6 = .ok (.aload_n 0, 1) := by decide +kernel
theorem dX5_dispute_7 : decode cX5_dispute 7 = .ok (.getfield 10, 3) := by decide +kernel
theorem dX5_dispute_10 : decode cX5_dispute 10 = .ok (.aload_n 2, 1) := by decide +kernel
theorem dX5_dispute_11 : decode cX5_dispute 11 = .ok (.invokevirtual 142, 3) := by decide +kernel
theorem dX5_dispute_14 : decode cX5_dispute 14 = .ok (.ifCond .ne 13, 3) := by decide +kernel
theorem dX5_dispute_17 : decode cX5_dispute 17 = .ok (.new 43, 3) := by decide +kernel
theorem dX5_dispute_20 : decode cX5_dispute 20 = .ok (.dup, 1) := by decide +kernel
theorem dX5_dispute_21 : decode cX5_dispute 21 = .ok (.ldc 146, 2) := by decide +kernel
theorem dX5_dispute_23 : decode cX5_dispute 23 = .ok (.invokespecial 47, 3) := by decide +kernel
theorem dX5_dispute_26 : decode cX5_dispute 26 = .ok (.athrow, 1) := by decide +kernel
theorem dX5_dispute_27 : decode cX5_dispute 27 = .ok (.aload_n 0, 1) := by decide +kernel
theorem dX5_dispute_28 : decode cX5_dispute 28 = .ok (.invokevirtual 50, 3) := by decide +kernel
theorem dX5_dispute_31 : decode cX5_dispute 31 = .ok (.aload_n 0, 1) := by decide +kernel
theorem dX5_dispute_32 : decode cX5_dispute 32 = .ok (.aload_n 2, 1) := by decide +kernel
theorem dX5_dispute_33 : decode cX5_dispute 33 = .ok (.getfield 148, 3) := by decide +kernel
theorem dX5_dispute_36 : decode cX5_dispute 36 = .ok (.aload_n 2, 1) := by decide +kernel
theorem dX5_dispute_37 : decode cX5_dispute 37 = .ok (.getfield 151, 3) := by decide +kernel
theorem dX5_dispute_40 : decode cX5_dispute 40 = .ok (.invokevirtual 31, 3) := by decide +kernel
theorem dX5_dispute_43 : decode cX5_dispute 43 = .ok (.astore_n 3, 1) := by decide +kernel
theorem dX5_dispute_44 : decode cX5_dispute 44 = .ok (.aload_n 2, 1) := by decide +kernel
theorem dX5_dispute_45 : decode cX5_dispute 45 = .ok (.iconst 1, 1) := by decide +kernel
theorem dX5_dispute_46 : decode cX5_dispute 46 = .ok (.putfield 152, 3) := by decide +kernel
theorem dX5_dispute_49 : decode cX5_dispute 49 = .ok (.aload_n 0, 1) := by decide +kernel
theorem dX5_dispute_50 : decode cX5_dispute 50 = .ok (.getfield 10, 3) := by decide +kernel
theorem dX5_dispute_53 : decode cX5_dispute 53 = .ok (.aload_n 3, 1) := by decide +kernel
theorem dX5_dispute_54 : decode cX5_dispute 54 = .ok (.aload_n 2, 1) := by decide +kernel
theorem dX5_dispute_55 : decode cX5_dispute 55 = .ok (.getfield 155, 3) := by decide +kernel
theorem dX5_dispute_58 : decode cX5_dispute 58 = .ok (.invokevirtual 158, 3) := by decide +kernel
theorem dX5_dispute_61 : decode cX5_dispute 61 = .ok (.aload_n 3, 1) := by decide +kernel
theorem dX5_dispute_62 : decode cX5_dispute 62 = .ok (.getfield 57, 3) := by decide +kernel
theorem dX5_dispute_65 : decode cX5_dispute 65 = .ok (.ireturn, 1) := by decide +kernel
theorem dX5_decide_0 : decode cX5_decide 0 = .ok (.aload_n 0, 1) := by decide +kernel
theorem dX5_decide_1 : decode cX5_decide 1 = .ok (.iload_n 1, 1) := by decide +kernel
theorem dX5_decide_2 : decode cX5_decide 2 = .ok (.invokevirtual 138, 3) := by decide +kernel
theorem dX5_decide_5 : decode cX5_decide 5 = .ok (.astore_n 3, 1) := by decide +kernel
theorem dX5_decide_6 : decode cX5_decide 6 = .ok (.aload_n 3, 1) := by decide +kernel
theorem dX5_decide_7 : decode cX5_decide 7 = .ok (.getfield 152, 3) := by decide +kernel
theorem dX5_decide_10 : decode cX5_decide 10 = .ok (.iconst 1, 1) := by decide +kernel
theorem dX5_decide_11 : decode cX5_decide 11 = .ok (.if_icmp .eq 13, 3) := by decide +kernel
theorem dX5_decide_14 : decode cX5_decide 14 = .ok (.new 43, 3) := by decide +kernel
theorem dX5_decide_17 : decode cX5_decide 17 = .ok (.dup, 1) := by decide +kernel
theorem dX5_decide_18 : decode cX5_decide 18 = .ok (.ldc 161, 2) := by decide +kernel
theorem dX5_decide_20 : decode cX5_decide 20 = .ok (.invokespecial 47, 3) := by decide +kernel
theorem dX5_decide_23 : decode cX5_decide 23 = .ok (.athrow, 1) := by decide +kernel
theorem dX5_decide_24 : decode cX5_decide 24 = .ok (.aload_n 0, 1) := by decide +kernel
theorem dX5_decide_25 : decode cX5_decide 25 = .ok (.invokevirtual 50, 3) := by decide +kernel
theorem dX5_decide_28 : decode cX5_decide 28 = .ok (.iload_n 2, 1) := by decide +kernel
theorem dX5_decide_29 : decode cX5_decide 29 = .ok (.ifCond .eq 10, 3) := by decide +kernel
theorem dX5_decide_32 : decode cX5_decide 32 = .ok (.aload_n 3, 1) := by decide +kernel
theorem dX5_decide_33 : decode cX5_decide 33 = .ok (.iconst 2, 1) := by decide +kernel
theorem dX5_decide_34 : decode cX5_decide 34 = .ok (.putfield 152, 3) := by decide +kernel
theorem dX5_decide_37 : decode cX5_decide 37 = .ok (.iconst 0, 1) := by decide +kernel
theorem dX5_decide_38 : decode cX5_decide 38 = .ok (.ireturn, 1) := by decide +kernel
theorem dX5_decide_39 : decode cX5_decide 39 = .ok (.aload_n 3, 1) := by decide +kernel
theorem dX5_decide_40 : decode cX5_decide 40 = .ok (.iconst 3, 1) := by decide +kernel
theorem dX5_decide_41 : decode cX5_decide 41 = .ok (.putfield 152, 3) := by decide +kernel
theorem dX5_decide_44 : decode cX5_decide 44 = .ok (.aload_n 0, 1) := by decide +kernel
theorem dX5_decide_45 : decode cX5_decide 45 = .ok (.getfield 10, 3) := by decide +kernel
theorem dX5_decide_48 : decode cX5_decide 48 = .ok (.aload_n 0, 1) := by decide +kernel
theorem dX5_decide_49 : decode cX5_decide 49 = .ok (.aload_n 3, 1) := by decide +kernel
theorem dX5_decide_50 : decode cX5_decide 50 = .ok (.getfield 148, 3) := by decide +kernel
theorem dX5_decide_53 : decode cX5_decide 53 = .ok (.aload_n 3, 1) := by decide +kernel
theorem dX5_decide_54 : decode cX5_decide 54 = .ok (.getfield 151, 3) := by decide +kernel
theorem dX5_decide_57 : decode cX5_decide 57 = .ok (.invokevirtual 31, 3) := by decide +kernel
theorem dX5_decide_60 : decode cX5_decide 60 = .ok (.aload_n 3, 1) := by decide +kernel
theorem dX5_decide_61 : decode cX5_decide 61 = .ok (.getfield 155, 3) := by decide +kernel
theorem dX5_decide_64 : decode cX5_decide 64 = .ok (.invokevirtual 163, 3) := by decide +kernel
theorem dX5_decide_67 : decode cX5_decide 67 = .ok (.ireturn, 1) := by decide +kernel
theorem dX5_close_0 : decode cX5_close 0 = .ok (.aload_n 0, 1) := by decide +kernel
theorem dX5_close_1 : decode cX5_close 1 = .ok (.iload_n 1, 1) := by decide +kernel
theorem dX5_close_2 : decode cX5_close 2 = .ok (.iconst 0, 1) := by decide +kernel
theorem dX5_close_3 : decode cX5_close 3 = .ok (.invokevirtual 31, 3) := by decide +kernel
theorem dX5_close_6 : decode cX5_close 6 = .ok (.astore_n 2, 1) := by decide +kernel
theorem dX5_close_7 : decode cX5_close 7 = .ok (.aload_n 0, 1) := by decide +kernel
theorem dX5_close_8 : decode cX5_close 8 = .ok (.getfield 10, 3) := by decide +kernel
theorem dX5_close_11 : decode cX5_close 11 = .ok (.iload_n 1, 1) := by decide +kernel
theorem dX5_close_12 : decode cX5_close 12 = .ok (.invokevirtual 166, 3) := by decide +kernel
theorem dX5_close_15 : decode cX5_close 15 = .ok (.ifCond .eq 13, 3) := by decide +kernel
theorem dX5_close_18 : decode cX5_close 18 = .ok (.new 43, 3) := by decide +kernel
theorem dX5_close_21 : decode cX5_close 21 = .ok (.dup, 1) := by decide +kernel
theorem dX5_close_22 : decode cX5_close 22 = .ok (.ldc 170, 2) := by decide +kernel
theorem dX5_close_24 : decode cX5_close 24 = .ok (.invokespecial 47, 3) := by decide +kernel
theorem dX5_close_27 : decode cX5_close 27 = .ok (.athrow, 1) := by decide +kernel
theorem dX5_close_28 : decode cX5_close 28 = .ok (.aload_n 0, 1) := by decide +kernel
theorem dX5_close_29 : decode cX5_close 29 = .ok (.invokevirtual 50, 3) := by decide +kernel
theorem dX5_close_32 : decode cX5_close 32 = .ok (.iconst 1, 1) := by decide +kernel
theorem dX5_close_33 : decode cX5_close 33 = .ok (.istore_n 3, 1) := by decide +kernel
theorem dX5_close_34 : decode cX5_close 34 = .ok (.iload_n 3, 1) := by decide +kernel
theorem dX5_close_35 : decode cX5_close 35 = .ok (.iconst 4, 1) := by decide +kernel
theorem dX5_close_36 : decode cX5_close 36 = .ok (.if_icmp .ge 47, 3) := by decide +kernel
theorem dX5_close_39 : decode cX5_close 39 = .ok (.aload_n 0, 1) := by decide +kernel
theorem dX5_close_40 : decode cX5_close 40 = .ok (.iload_n 1, 1) := by decide +kernel
theorem dX5_close_41 : decode cX5_close 41 = .ok (.iload_n 3, 1) := by decide +kernel
theorem dX5_close_42 : decode cX5_close 42 = .ok (.invokevirtual 31, 3) := by decide +kernel
theorem dX5_close_45 : decode cX5_close 45 = .ok (.astore 4, 2) := by decide +kernel
theorem dX5_close_47 : decode cX5_close 47 = .ok (.aload 4, 2) := by decide +kernel
theorem dX5_close_49 : decode cX5_close 49 = .ok (.getfield 57, 3) := by decide +kernel
theorem dX5_close_52 : decode cX5_close 52 = .ok (.ifCond .le 19, 3) := by decide +kernel
theorem dX5_close_55 : decode cX5_close 55 = .ok (.aload_n 0, 1) := by decide +kernel
theorem dX5_close_56 : decode cX5_close 56 = .ok (.getfield 10, 3) := by decide +kernel
theorem dX5_close_59 : decode cX5_close 59 = .ok (.aload 4, 2) := by decide +kernel
theorem dX5_close_61 : decode cX5_close 61 = .ok (.aload_n 2, 1) := by decide +kernel
theorem dX5_close_62 : decode cX5_close 62 = .ok (.aload 4, 2) := by decide +kernel
theorem dX5_close_64 : decode cX5_close 64 = .ok (.getfield 57, 3) := by decide +kernel
theorem dX5_close_67 : decode cX5_close 67 = .ok (.invokevirtual 100, 3) := by decide +kernel
theorem dX5_close_70 : decode cX5_close 70 = .ok (.pop, 1) := by decide +kernel
theorem dX5_close_71 : decode cX5_close 71 = .ok (.aload 4, 2) := by decide +kernel
theorem dX5_close_73 : decode cX5_close 73 = .ok (.iconst (-1), 1) := by decide +kernel
theorem dX5_close_74 : decode cX5_close 74 = .ok (.putfield 91, 3) := by decide +kernel
theorem dX5_close_77 : decode cX5_close 77 = .ok (.iinc 3 1, 3) := by decide +kernel
theorem dX5_close_80 : decode cX5_close 80 = .ok (.goto (-46), 3) := by decide +kernel
theorem dX5_close_83 : decode cX5_close 83 = .ok (.aload_n 0, 1) := by decide +kernel
theorem dX5_close_84 : decode cX5_close 84 = .ok (.getfield 10, 3) := by decide +kernel
theorem dX5_close_87 : decode cX5_close 87 = .ok (.aload_n 2, 1) := by decide +kernel
theorem dX5_close_88 : decode cX5_close 88 = .ok (.invokevirtual 172, 3) := by decide +kernel
theorem dX5_close_91 : decode cX5_close 91 = .ok (.ireturn, 1) := by decide +kernel
theorem dX5_pass_0 : decode cX5_pass 0 = .ok (.iload_n 1, 1) := by decide +kernel
theorem dX5_pass_1 : decode cX5_pass 1 = .ok (.iconst 1, 1) := by decide +kernel
theorem dX5_pass_2 : decode cX5_pass 2 = .ok (.if_icmp .lt 9, 3) := by decide +kernel
theorem dX5_pass_5 : decode cX5_pass 5 = .ok (.iload_n 1, 1) := by decide +kernel
theorem dX5_pass_6 : decode cX5_pass 6 = .ok (.bipush 60, 2) := by decide +kernel
theorem dX5_pass_8 : decode cX5_pass 8 = .ok (.if_icmp .le 13, 3) := by decide +kernel
theorem dX5_pass_11 : decode cX5_pass 11 = .ok (.new 68, 3) := by decide +kernel
theorem dX5_pass_14 : decode cX5_pass 14 = .ok (.dup, 1) := by decide +kernel
theorem dX5_pass_15 : decode cX5_pass 15 = .ok (.ldc 176, 2) := by decide +kernel
theorem dX5_pass_17 : decode cX5_pass 17 = .ok (.invokespecial 72, 3) := by decide +kernel
theorem dX5_pass_20 : decode cX5_pass 20 = .ok (.athrow, 1) := by decide +kernel
theorem dX5_pass_21 : decode cX5_pass 21 = .ok (.aload_n 0, 1) := by decide +kernel
theorem dX5_pass_22 : decode cX5_pass 22 = .ok (.getfield 10, 3) := by decide +kernel
theorem dX5_pass_25 : decode cX5_pass 25 = .ok (.getfield 85, 3) := by decide +kernel
theorem dX5_pass_28 : decode cX5_pass 28 = .ok (.iload_n 1, 1) := by decide +kernel
theorem dX5_pass_29 : decode cX5_pass 29 = .ok (.iadd, 1) := by decide +kernel
theorem dX5_pass_30 : decode cX5_pass 30 = .ok (.sipush 5000, 3) := by decide +kernel
theorem dX5_pass_33 : decode cX5_pass 33 = .ok (.if_icmp .le 13, 3) := by decide +kernel
theorem dX5_pass_36 : decode cX5_pass 36 = .ok (.new 43, 3) := by decide +kernel
theorem dX5_pass_39 : decode cX5_pass 39 = .ok (.dup, 1) := by decide +kernel
theorem dX5_pass_40 : decode cX5_pass 40 = .ok (.ldc 178, 2) := by decide +kernel
theorem dX5_pass_42 : decode cX5_pass 42 = .ok (.invokespecial 47, 3) := by decide +kernel
theorem dX5_pass_45 : decode cX5_pass 45 = .ok (.athrow, 1) := by decide +kernel
theorem dX5_pass_46 : decode cX5_pass 46 = .ok (.aload_n 0, 1) := by decide +kernel
theorem dX5_pass_47 : decode cX5_pass 47 = .ok (.invokevirtual 50, 3) := by decide +kernel
theorem dX5_pass_50 : decode cX5_pass 50 = .ok (.aload_n 0, 1) := by decide +kernel
theorem dX5_pass_51 : decode cX5_pass 51 = .ok (.getfield 10, 3) := by decide +kernel
theorem dX5_pass_54 : decode cX5_pass 54 = .ok (.dup, 1) := by decide +kernel
theorem dX5_pass_55 : decode cX5_pass 55 = .ok (.getfield 85, 3) := by decide +kernel
theorem dX5_pass_58 : decode cX5_pass 58 = .ok (.iload_n 1, 1) := by decide +kernel
theorem dX5_pass_59 : decode cX5_pass 59 = .ok (.iadd, 1) := by decide +kernel
theorem dX5_pass_60 : decode cX5_pass 60 = .ok (.putfield 85, 3) := by decide +kernel
theorem dX5_pass_63 : decode cX5_pass 63 = .ok (.aload_n 0, 1) := by decide +kernel
theorem dX5_pass_64 : decode cX5_pass 64 = .ok (.getfield 10, 3) := by decide +kernel
theorem dX5_pass_67 : decode cX5_pass 67 = .ok (.invokevirtual 180, 3) := by decide +kernel
theorem dX5_pass_70 : decode cX5_pass 70 = .ok (.ireturn, 1) := by decide +kernel
theorem dX5_set_0 : decode cX5_set 0 = .ok (.iload_n 1, 1) := by decide +kernel
theorem dX5_set_1 : decode cX5_set 1 = .ok (.ifCond .lt 8, 3) := by decide +kernel
theorem dX5_set_4 : decode cX5_set 4 = .ok (.iload_n 1, 1) := by decide +kernel
theorem dX5_set_5 : decode cX5_set 5 = .ok (.iconst 4, 1) := by decide +kernel
theorem dX5_set_6 : decode cX5_set 6 = .ok (.if_icmp .lt 13, 3) := by decide +kernel
theorem dX5_set_9 : decode cX5_set 9 = .ok (.new 63, 3) := by decide +kernel
theorem dX5_set_12 : decode cX5_set 12 = .ok (.dup, 1) := by decide +kernel
theorem dX5_set_13 : decode cX5_set 13 = .ok (.ldc 184, 2) := by decide +kernel
theorem dX5_set_15 : decode cX5_set 15 = .ok (.invokespecial 67, 3) := by decide +kernel
theorem dX5_set_18 : decode cX5_set 18 = .ok (.athrow, 1) := by decide +kernel
theorem dX5_set_19 : decode cX5_set 19 = .ok (.iload_n 2, 1) := by decide +kernel
theorem dX5_set_20 : decode cX5_set 20 = .ok (.ifCond .lt 12, 3) := by decide +kernel
theorem dX5_set_23 : decode cX5_set 23 = .ok (.iload_n 2, 1) := by decide +kernel
theorem dX5_set_24 : decode cX5_set 24 = .ok (.getstatic 186, 3) := by decide +kernel
theorem dX5_set_27 : decode cX5_set 27 = .ok (.iload_n 1, 1) := by decide +kernel
theorem dX5_set_28 : decode cX5_set 28 = .ok (.iaload, 1) := by decide +kernel
theorem dX5_set_29 : decode cX5_set 29 = .ok (.if_icmp .le 13, 3) := by decide +kernel
theorem dX5_set_32 : decode cX5_set 32 = .ok (.new 68, 3) := by decide +kernel
theorem dX5_set_35 : decode cX5_set 35 = .ok (.dup, 1) := by decide +kernel
theorem dX5_set_36 : decode cX5_set 36 = .ok (.ldc 189, 2) := by decide +kernel
theorem dX5_set_38 : decode cX5_set 38 = .ok (.invokespecial 72, 3) := by decide +kernel
theorem dX5_set_41 : decode cX5_set 41 = .ok (.athrow, 1) := by decide +kernel
theorem dX5_set_42 : decode cX5_set 42 = .ok (.aload_n 0, 1) := by decide +kernel
theorem dX5_set_43 : decode cX5_set 43 = .ok (.invokevirtual 50, 3) := by decide +kernel
theorem dX5_set_46 : decode cX5_set 46 = .ok (.aload_n 0, 1) := by decide +kernel
theorem dX5_set_47 : decode cX5_set 47 = .ok (.getfield 10, 3) := by decide +kernel
theorem dX5_set_50 : decode cX5_set 50 = .ok (.getfield 88, 3) := by decide +kernel
theorem dX5_set_53 : decode cX5_set 53 = .ok (.iload_n 1, 1) := by decide +kernel
theorem dX5_set_54 : decode cX5_set 54 = .ok (.iaload, 1) := by decide +kernel
theorem dX5_set_55 : decode cX5_set 55 = .ok (.istore_n 3, 1) := by decide +kernel
theorem dX5_set_56 : decode cX5_set 56 = .ok (.aload_n 0, 1) := by decide +kernel
theorem dX5_set_57 : decode cX5_set 57 = .ok (.getfield 10, 3) := by decide +kernel
theorem dX5_set_60 : decode cX5_set 60 = .ok (.getfield 88, 3) := by decide +kernel
theorem dX5_set_63 : decode cX5_set 63 = .ok (.iload_n 1, 1) := by decide +kernel
theorem dX5_set_64 : decode cX5_set 64 = .ok (.iload_n 2, 1) := by decide +kernel
theorem dX5_set_65 : decode cX5_set 65 = .ok (.iastore, 1) := by decide +kernel
theorem dX5_set_66 : decode cX5_set 66 = .ok (.iload_n 3, 1) := by decide +kernel
theorem dX5_set_67 : decode cX5_set 67 = .ok (.ireturn, 1) := by decide +kernel
theorem dX5_append_0 : decode cX5_append 0 = .ok (.iload_n 1, 1) := by decide +kernel
theorem dX5_append_1 : decode cX5_append 1 = .ok (.bipush 33, 2) := by decide +kernel
theorem dX5_append_3 : decode cX5_append 3 = .ok (.if_icmp .lt 9, 3) := by decide +kernel
theorem dX5_append_6 : decode cX5_append 6 = .ok (.iload_n 1, 1) := by decide +kernel
theorem dX5_append_7 : decode cX5_append 7 = .ok (.bipush 126, 2) := by decide +kernel
theorem dX5_append_9 : decode cX5_append 9 = .ok (.if_icmp .le 13, 3) := by decide +kernel
theorem dX5_append_12 : decode cX5_append 12 = .ok (.new 68, 3) := by decide +kernel
theorem dX5_append_15 : decode cX5_append 15 = .ok (.dup, 1) := by decide +kernel
theorem dX5_append_16 : decode cX5_append 16 = .ok (.ldc 191, 2) := by decide +kernel
theorem dX5_append_18 : decode cX5_append 18 = .ok (.invokespecial 72, 3) := by decide +kernel
theorem dX5_append_21 : decode cX5_append 21 = .ok (.athrow, 1) := by decide +kernel
theorem dX5_append_22 : decode cX5_append 22 = .ok (.aload_n 0, 1) := by decide +kernel
theorem dX5_append_23 : decode cX5_append 23 = .ok (.getfield 193, 3) := by decide +kernel
theorem dX5_append_26 : decode cX5_append 26 = .ok (.aload_n 0, 1) := by decide +kernel
theorem dX5_append_27 : decode cX5_append 27 = .ok (.getfield 20, 3) := by decide +kernel
theorem dX5_append_30 : decode cX5_append 30 = .ok (.arraylength, 1) := by decide +kernel
theorem dX5_append_31 : decode cX5_append 31 = .ok (.if_icmp .lt 13, 3) := by decide +kernel
theorem dX5_append_34 : decode cX5_append 34 = .ok (.new 43, 3) := by decide +kernel
theorem dX5_append_37 : decode cX5_append 37 = .ok (.dup, 1) := by decide +kernel
theorem dX5_append_38 : decode cX5_append 38 = .ok (.ldc 196, 2) := by decide +kernel
theorem dX5_append_40 : decode cX5_append 40 = .ok (.invokespecial 47, 3) := by decide +kernel
theorem dX5_append_43 : decode cX5_append 43 = .ok (.athrow, 1) := by decide +kernel
theorem dX5_append_44 : decode cX5_append 44 = .ok (.aload_n 0, 1) := by decide +kernel
theorem dX5_append_45 : decode cX5_append 45 = .ok (.getfield 20, 3) := by decide +kernel
theorem dX5_append_48 : decode cX5_append 48 = .ok (.aload_n 0, 1) := by decide +kernel
theorem dX5_append_49 : decode cX5_append 49 = .ok (.getfield 193, 3) := by decide +kernel
theorem dX5_append_52 : decode cX5_append 52 = .ok (.iload_n 1, 1) := by decide +kernel
theorem dX5_append_53 : decode cX5_append 53 = .ok (.iastore, 1) := by decide +kernel
theorem dX5_append_54 : decode cX5_append 54 = .ok (.aload_n 0, 1) := by decide +kernel
theorem dX5_append_55 : decode cX5_append 55 = .ok (.dup, 1) := by decide +kernel
theorem dX5_append_56 : decode cX5_append 56 = .ok (.getfield 193, 3) := by decide +kernel
theorem dX5_append_59 : decode cX5_append 59 = .ok (.iconst 1, 1) := by decide +kernel
theorem dX5_append_60 : decode cX5_append 60 = .ok (.iadd, 1) := by decide +kernel
theorem dX5_append_61 : decode cX5_append 61 = .ok (.putfield 193, 3) := by decide +kernel
theorem dX5_append_64 : decode cX5_append 64 = .ok (.aload_n 0, 1) := by decide +kernel
theorem dX5_append_65 : decode cX5_append 65 = .ok (.getfield 193, 3) := by decide +kernel
theorem dX5_append_68 : decode cX5_append 68 = .ok (.ireturn, 1) := by decide +kernel
theorem dX5_clearBuffer_0 : decode cX5_clearBuffer 0 = .ok (.aload_n 0, 1) := by decide +kernel
theorem dX5_clearBuffer_1 : decode cX5_clearBuffer 1 = .ok (.getfield 193, 3) := by decide +kernel
theorem dX5_clearBuffer_4 : decode cX5_clearBuffer 4 = .ok (.istore_n 1, 1) := by decide +kernel
theorem dX5_clearBuffer_5 : decode cX5_clearBuffer 5 = .ok (.aload_n 0, 1) := by decide +kernel
theorem dX5_clearBuffer_6 : decode cX5_clearBuffer 6 = .ok (.iconst 0, 1) := by decide +kernel
theorem dX5_clearBuffer_7 : decode cX5_clearBuffer 7 = .ok (.putfield 193, 3) := by decide +kernel
theorem dX5_clearBuffer_10 : decode cX5_clearBuffer 10 = .ok (.iload_n 1, 1) := by decide +kernel
theorem dX5_clearBuffer_11 : decode cX5_clearBuffer 11 = .ok (.ireturn, 1) := by decide +kernel
theorem dX5_firstError_0 : decode cX5_firstError 0 = .ok (.aload_n 0, 1) := by decide +kernel
theorem dX5_firstError_1 : decode cX5_firstError 1 = .ok (.getfield 27, 3) := by decide +kernel
theorem dX5_firstError_4 : decode cX5_firstError 4 = .ok (.invokevirtual 198, 3) := by decide +kernel
theorem dX5_firstError_7 : decode cX5_firstError 7 = .ok (.iconst 0, 1) := by decide +kernel
theorem dX5_firstError_8 : decode cX5_firstError 8 = .ok (.istore_n 1, 1) := by decide +kernel
theorem dX5_firstError_9 : decode cX5_firstError 9 = .ok (.iload_n 1, 1) := by decide +kernel
theorem dX5_firstError_10 : decode cX5_firstError 10 = .ok (.aload_n 0, 1) := by decide +kernel
theorem dX5_firstError_11 : decode cX5_firstError 11 = .ok (.getfield 193, 3) := by decide +kernel
theorem dX5_firstError_14 : decode cX5_firstError 14 = .ok (.if_icmp .ge 27, 3) := by decide +kernel
theorem dX5_firstError_17 : decode cX5_firstError 17 = .ok (.aload_n 0, 1) := by decide +kernel
theorem dX5_firstError_18 : decode cX5_firstError 18 = .ok (.getfield 27, 3) := by decide +kernel
theorem dX5_firstError_21 : decode cX5_firstError 21 = .ok (.aload_n 0, 1) := by decide +kernel
theorem dX5_firstError_22 : decode cX5_firstError 22 = .ok (.getfield 20, 3) := by decide +kernel
theorem dX5_firstError_25 : decode cX5_firstError 25 = .ok (.iload_n 1, 1) := by decide +kernel
theorem dX5_firstError_26 : decode cX5_firstError 26 = .ok (.iaload, 1) := by decide +kernel
theorem dX5_firstError_27 : decode cX5_firstError 27 = .ok (.invokevirtual 201, 3) := by decide +kernel
theorem dX5_firstError_30 : decode cX5_firstError 30 = .ok (.ifCond .ne 5, 3) := by decide +kernel
theorem dX5_firstError_33 : decode cX5_firstError 33 = .ok (.iload_n 1, 1) := by decide +kernel
theorem dX5_firstError_34 : decode cX5_firstError 34 = .ok (.ireturn, 1) := by decide +kernel
theorem dX5_firstError_35 : decode cX5_firstError 35 = .ok (.iinc 1 1, 3) := by decide +kernel
theorem dX5_firstError_38 : decode cX5_firstError 38 = .ok (.goto (-29), 3) := by decide +kernel
theorem dX5_firstError_41 : decode cX5_firstError 41 = .ok (.aload_n 0, 1) := by decide +kernel
theorem dX5_firstError_42 : decode cX5_firstError 42 = .ok (.getfield 193, 3) := by decide +kernel
theorem dX5_firstError_45 : decode cX5_firstError 45 = .ok (.ireturn, 1) := by decide +kernel
theorem dX5_run_0 : decode cX5_run 0 = .ok (.aload_n 0, 1) := by decide +kernel
theorem dX5_run_1 : decode cX5_run 1 = .ok (.invokevirtual 205, 3) := by decide +kernel
theorem dX5_run_4 : decode cX5_run 4 = .ok (.aload_n 0, 1) := by decide +kernel
theorem dX5_run_5 : decode cX5_run 5 = .ok (.getfield 193, 3) := by decide +kernel
theorem dX5_run_8 : decode cX5_run 8 = .ok (.if_icmp .lt 13, 3) := by decide +kernel
theorem dX5_run_11 : decode cX5_run 11 = .ok (.aload_n 0, 1) := by decide +kernel
theorem dX5_run_12 : decode cX5_run 12 = .ok (.getfield 27, 3) := by decide +kernel
theorem dX5_run_15 : decode cX5_run 15 = .ok (.invokevirtual 208, 3) := by decide +kernel
theorem dX5_run_18 : decode cX5_run 18 = .ok (.ifCond .ne 13, 3) := by decide +kernel
theorem dX5_run_21 : decode cX5_run 21 = .ok (.new 68, 3) := by decide +kernel
theorem dX5_run_24 : decode cX5_run 24 = .ok (.dup, 1) := by decide +kernel
theorem dX5_run_25 : decode cX5_run 25 = .ok (.ldc 212, 2) := by decide +kernel
theorem dX5_run_27 : decode cX5_run 27 = .ok (.invokespecial 72, 3) := by decide +kernel
theorem dX5_run_30 : decode cX5_run 30 = .ok (.athrow, 1) := by decide +kernel
theorem dX5_run_31 : decode cX5_run 31 = .ok (.aload_n 0, 1) := by decide +kernel
theorem dX5_run_32 : decode cX5_run 32 = .ok (.invokevirtual 50, 3) := by decide +kernel
theorem dX5_run_35 : decode cX5_run 35 = .ok (.aload_n 0, 1) := by decide +kernel
theorem dX5_run_36 : decode cX5_run 36 = .ok (.invokevirtual 214, 3) := by decide +kernel
theorem dX5_run_39 : decode cX5_run 39 = .ok (.istore_n 1, 1) := by decide +kernel
theorem dX5_run_40 : decode cX5_run 40 = .ok (.aload_n 0, 1) := by decide +kernel
theorem dX5_run_41 : decode cX5_run 41 = .ok (.iconst 0, 1) := by decide +kernel
theorem dX5_run_42 : decode cX5_run 42 = .ok (.putfield 193, 3) := by decide +kernel
theorem dX5_run_45 : decode cX5_run 45 = .ok (.iload_n 1, 1) := by decide +kernel
theorem dX5_run_46 : decode cX5_run 46 = .ok (.ireturn, 1) := by decide +kernel
theorem dX5_undo_0 : decode cX5_undo 0 = .ok (.aload_n 0, 1) := by decide +kernel
theorem dX5_undo_1 : decode cX5_undo 1 = .ok (.getfield 217, 3) := by decide +kernel
theorem dX5_undo_4 : decode cX5_undo 4 = .ok (.iconst 1, 1) := by decide +kernel
theorem dX5_undo_5 : decode cX5_undo 5 = .ok (.if_icmp .ge 13, 3) := by decide +kernel
theorem dX5_undo_8 : decode cX5_undo 8 = .ok (.new 43, 3) := by decide +kernel
theorem dX5_undo_11 : decode cX5_undo 11 = .ok (.dup, 1) := by decide +kernel
theorem dX5_undo_12 : decode cX5_undo 12 = .ok (.ldc 220, 2) := by decide +kernel
theorem dX5_undo_14 : decode cX5_undo 14 = .ok (.invokespecial 47, 3) := by decide +kernel
theorem dX5_undo_17 : decode cX5_undo 17 = .ok (.athrow, 1) := by decide +kernel
theorem dX5_undo_18 : decode cX5_undo 18 = .ok (.aload_n 0, 1) := by decide +kernel
theorem dX5_undo_19 : decode cX5_undo 19 = .ok (.dup, 1) := by decide +kernel
theorem dX5_undo_20 : decode cX5_undo 20 = .ok (.getfield 217, 3) := by decide +kernel
theorem dX5_undo_23 : decode cX5_undo 23 = .ok (.iconst 1, 1) := by decide +kernel
theorem dX5_undo_24 : decode cX5_undo 24 = .ok (.isub, 1) := by decide +kernel
theorem dX5_undo_25 : decode cX5_undo 25 = .ok (.putfield 217, 3) := by decide +kernel
theorem dX5_undo_28 : decode cX5_undo 28 = .ok (.aload_n 0, 1) := by decide +kernel
theorem dX5_undo_29 : decode cX5_undo 29 = .ok (.getfield 10, 3) := by decide +kernel
theorem dX5_undo_32 : decode cX5_undo 32 = .ok (.aload_n 0, 1) := by decide +kernel
theorem dX5_undo_33 : decode cX5_undo 33 = .ok (.getfield 16, 3) := by decide +kernel
theorem dX5_undo_36 : decode cX5_undo 36 = .ok (.aload_n 0, 1) := by decide +kernel
theorem dX5_undo_37 : decode cX5_undo 37 = .ok (.getfield 217, 3) := by decide +kernel
theorem dX5_undo_40 : decode cX5_undo 40 = .ok (.aaload, 1) := by decide +kernel
theorem dX5_undo_41 : decode cX5_undo 41 = .ok (.invokevirtual 222, 3) := by decide +kernel
theorem dX5_undo_44 : decode cX5_undo 44 = .ok (.aload_n 0, 1) := by decide +kernel
theorem dX5_undo_45 : decode cX5_undo 45 = .ok (.getfield 217, 3) := by decide +kernel
theorem dX5_undo_48 : decode cX5_undo 48 = .ok (.ireturn, 1) := by decide +kernel
theorem dX5_purse_0 : decode cX5_purse 0 = .ok (.aload_n 0, 1) := by decide +kernel
theorem dX5_purse_1 : decode cX5_purse 1 = .ok (.iload_n 1, 1) := by decide +kernel
theorem dX5_purse_2 : decode cX5_purse 2 = .ok (.iload_n 2, 1) := by decide +kernel
theorem dX5_purse_3 : decode cX5_purse 3 = .ok (.invokevirtual 31, 3) := by decide +kernel
theorem dX5_purse_6 : decode cX5_purse 6 = .ok (.astore 4, 2) := by decide +kernel
theorem dX5_purse_8 : decode cX5_purse 8 = .ok (.iload_n 3, 1) := by decide +kernel
theorem dX5_purse_9 : decode cX5_purse 9 = .ok (.tableswitch 131 0 7 #[47, 53, 63, 73, 79, 89, 111, 121], 47) := by decide +kernel
theorem dX5_purse_56 : decode cX5_purse 56 = .ok (.aload 4, 2) := by decide +kernel
theorem dX5_purse_58 : decode cX5_purse 58 = .ok (.getfield 57, 3) := by decide +kernel
theorem dX5_purse_61 : decode cX5_purse 61 = .ok (.ireturn, 1) := by decide +kernel
theorem dX5_purse_62 : decode cX5_purse 62 = .ok (.aload_n 0, 1) := by decide +kernel
theorem dX5_purse_63 : decode cX5_purse 63 = .ok (.getfield 10, 3) := by decide +kernel
theorem dX5_purse_66 : decode cX5_purse 66 = .ok (.aload 4, 2) := by decide +kernel
theorem dX5_purse_68 : decode cX5_purse 68 = .ok (.invokevirtual 226, 3) := by decide +kernel
theorem dX5_purse_71 : decode cX5_purse 71 = .ok (.ireturn, 1) := by decide +kernel
theorem dX5_purse_72 : decode cX5_purse 72 = .ok (.aload_n 0, 1) := by decide +kernel
theorem dX5_purse_73 : decode cX5_purse 73 = .ok (.getfield 10, 3) := by decide +kernel
theorem dX5_purse_76 : decode cX5_purse 76 = .ok (.aload 4, 2) := by decide +kernel
theorem dX5_purse_78 : decode cX5_purse 78 = .ok (.invokevirtual 229, 3) := by decide +kernel
theorem dX5_purse_81 : decode cX5_purse 81 = .ok (.ireturn, 1) := by decide +kernel
theorem dX5_purse_82 : decode cX5_purse 82 = .ok (.aload 4, 2) := by decide +kernel
theorem dX5_purse_84 : decode cX5_purse 84 = .ok (.getfield 232, 3) := by decide +kernel
theorem dX5_purse_87 : decode cX5_purse 87 = .ok (.ireturn, 1) := by decide +kernel
theorem dX5_purse_88 : decode cX5_purse 88 = .ok (.aload_n 0, 1) := by decide +kernel
theorem dX5_purse_89 : decode cX5_purse 89 = .ok (.getfield 10, 3) := by decide +kernel
theorem dX5_purse_92 : decode cX5_purse 92 = .ok (.aload 4, 2) := by decide +kernel
theorem dX5_purse_94 : decode cX5_purse 94 = .ok (.invokevirtual 235, 3) := by decide +kernel
theorem dX5_purse_97 : decode cX5_purse 97 = .ok (.ireturn, 1) := by decide +kernel
theorem dX5_purse_98 : decode cX5_purse 98 = .ok (.aload_n 0, 1) := by decide +kernel
theorem dX5_purse_99 : decode cX5_purse 99 = .ok (.getfield 10, 3) := by decide +kernel
theorem dX5_purse_102 : decode cX5_purse 102 = .ok (.aload 4, 2) := by decide +kernel
theorem dX5_purse_104 : decode cX5_purse 104 = .ok (.invokevirtual 238, 3) := by decide +kernel
theorem dX5_purse_107 : decode cX5_purse 107 = .ok (.ifCond .eq 11, 3) := by decide +kernel
theorem dX5_purse_110 : decode cX5_purse 110 = .ok (.aload 4, 2) := by decide +kernel
theorem dX5_purse_112 : decode cX5_purse 112 = .ok (.getfield 91, 3) := by decide +kernel
theorem dX5_purse_115 : decode cX5_purse 115 = .ok (.goto 4, 3) := by decide +kernel
theorem dX5_purse_118 : decode cX5_purse 118 = .ok (.iconst (-1), 1) := by decide +kernel
theorem dX5_purse_119 : decode cX5_purse 119 = .ok (.ireturn, 1) := by decide +kernel
theorem dX5_purse_120 : decode cX5_purse 120 = .ok (.aload_n 0, 1) := by decide +kernel
theorem dX5_purse_121 : decode cX5_purse 121 = .ok (.getfield 10, 3) := by decide +kernel
theorem dX5_purse_124 : decode cX5_purse 124 = .ok (.aload 4, 2) := by decide +kernel
theorem dX5_purse_126 : decode cX5_purse 126 = .ok (.invokevirtual 242, 3) := by decide +kernel
theorem dX5_purse_129 : decode cX5_purse 129 = .ok (.ireturn, 1) := by decide +kernel
theorem dX5_purse_130 : decode cX5_purse 130 = .ok (.aload_n 0, 1) := by decide +kernel
theorem dX5_purse_131 : decode cX5_purse 131 = .ok (.getfield 10, 3) := by decide +kernel
theorem dX5_purse_134 : decode cX5_purse 134 = .ok (.aload 4, 2) := by decide +kernel
theorem dX5_purse_136 : decode cX5_purse 136 = .ok (.invokevirtual 245, 3) := by decide +kernel
theorem dX5_purse_139 : decode cX5_purse 139 = .ok (.ireturn, 1) := by decide +kernel
theorem dX5_purse_140 : decode cX5_purse 140 = .ok (.new 68, 3) := by decide +kernel
theorem dX5_purse_143 : decode cX5_purse 143 = .ok (.dup, 1) := by decide +kernel
theorem dX5_purse_144 : decode cX5_purse 144 = .ok (.ldc 248, 2) := by decide +kernel
theorem dX5_purse_146 : decode cX5_purse 146 = .ok (.invokespecial 72, 3) := by decide +kernel
theorem dX5_purse_149 : decode cX5_purse 149 = .ok (.athrow, 1) := by decide +kernel
theorem dX5_held_0 : decode cX5_held 0 = .ok (.aload_n 0, 1) := by decide +kernel
theorem dX5_held_1 : decode cX5_held 1 = .ok (.iload_n 1, 1) := by decide +kernel
theorem dX5_held_2 : decode cX5_held 2 = .ok (.invokevirtual 112, 3) := by decide +kernel
theorem dX5_held_5 : decode cX5_held 5 = .ok (.astore_n 3, 1) := by decide +kernel
theorem dX5_held_6 : decode cX5_held 6 = .ok (.iload_n 2, 1) := by decide +kernel
theorem dX5_held_7 : decode cX5_held 7 = .ok (.tableswitch 58 0 4 #[33, 38, 43, 48, 53], 33) := by decide +kernel
theorem dX5_held_40 : decode cX5_held 40 = .ok (.aload_n 3, 1) := by decide +kernel
theorem dX5_held_41 : decode cX5_held 41 = .ok (.getfield 128, 3) := by decide +kernel
theorem dX5_held_44 : decode cX5_held 44 = .ok (.ireturn, 1) := by decide +kernel
theorem dX5_held_45 : decode cX5_held 45 = .ok (.aload_n 3, 1) := by decide +kernel
theorem dX5_held_46 : decode cX5_held 46 = .ok (.getfield 131, 3) := by decide +kernel
theorem dX5_held_49 : decode cX5_held 49 = .ok (.ireturn, 1) := by decide +kernel
theorem dX5_held_50 : decode cX5_held 50 = .ok (.aload_n 3, 1) := by decide +kernel
theorem dX5_held_51 : decode cX5_held 51 = .ok (.getfield 250, 3) := by decide +kernel
theorem dX5_held_54 : decode cX5_held 54 = .ok (.ireturn, 1) := by decide +kernel
theorem dX5_held_55 : decode cX5_held 55 = .ok (.aload_n 3, 1) := by decide +kernel
theorem dX5_held_56 : decode cX5_held 56 = .ok (.getfield 118, 3) := by decide +kernel
theorem dX5_held_59 : decode cX5_held 59 = .ok (.ireturn, 1) := by decide +kernel
theorem dX5_held_60 : decode cX5_held 60 = .ok (.aload_n 3, 1) := by decide +kernel
theorem dX5_held_61 : decode cX5_held 61 = .ok (.getfield 251, 3) := by decide +kernel
theorem dX5_held_64 : decode cX5_held 64 = .ok (.ireturn, 1) := by decide +kernel
theorem dX5_held_65 : decode cX5_held 65 = .ok (.new 68, 3) := by decide +kernel
theorem dX5_held_68 : decode cX5_held 68 = .ok (.dup, 1) := by decide +kernel
theorem dX5_held_69 : decode cX5_held 69 = .ok (.ldc 248, 2) := by decide +kernel
theorem dX5_held_71 : decode cX5_held 71 = .ok (.invokespecial 72, 3) := by decide +kernel
theorem dX5_held_74 : decode cX5_held 74 = .ok (.athrow, 1) := by decide +kernel
theorem dX5_payment_0 : decode cX5_payment 0 = .ok (.aload_n 0, 1) := by decide +kernel
theorem dX5_payment_1 : decode cX5_payment 1 = .ok (.iload_n 1, 1) := by decide +kernel
theorem dX5_payment_2 : decode cX5_payment 2 = .ok (.invokevirtual 138, 3) := by decide +kernel
theorem dX5_payment_5 : decode cX5_payment 5 = .ok (.astore_n 3, 1) := by decide +kernel
theorem dX5_payment_6 : decode cX5_payment 6 = .ok (.iload_n 2, 1) := by decide +kernel
theorem dX5_payment_7 : decode cX5_payment 7 = .ok (.tableswitch 79 0 5 #[37, 42, 47, 52, 57, 62], 37) := by decide +kernel
theorem dX5_payment_44 : decode cX5_payment 44 = .ok (.aload_n 3, 1) := by decide +kernel
theorem dX5_payment_45 : decode cX5_payment 45 = .ok (.getfield 148, 3) := by decide +kernel
theorem dX5_payment_48 : decode cX5_payment 48 = .ok (.ireturn, 1) := by decide +kernel
theorem dX5_payment_49 : decode cX5_payment 49 = .ok (.aload_n 3, 1) := by decide +kernel
theorem dX5_payment_50 : decode cX5_payment 50 = .ok (.getfield 151, 3) := by decide +kernel
theorem dX5_payment_53 : decode cX5_payment 53 = .ok (.ireturn, 1) := by decide +kernel
theorem dX5_payment_54 : decode cX5_payment 54 = .ok (.aload_n 3, 1) := by decide +kernel
theorem dX5_payment_55 : decode cX5_payment 55 = .ok (.getfield 155, 3) := by decide +kernel
theorem dX5_payment_58 : decode cX5_payment 58 = .ok (.ireturn, 1) := by decide +kernel
theorem dX5_payment_59 : decode cX5_payment 59 = .ok (.aload_n 3, 1) := by decide +kernel
theorem dX5_payment_60 : decode cX5_payment 60 = .ok (.getfield 252, 3) := by decide +kernel
theorem dX5_payment_63 : decode cX5_payment 63 = .ok (.ireturn, 1) := by decide +kernel
theorem dX5_payment_64 : decode cX5_payment 64 = .ok (.aload_n 3, 1) := by decide +kernel
theorem dX5_payment_65 : decode cX5_payment 65 = .ok (.getfield 152, 3) := by decide +kernel
theorem dX5_payment_68 : decode cX5_payment 68 = .ok (.ireturn, 1) := by decide +kernel
theorem dX5_payment_69 : decode cX5_payment 69 = .ok (.aload_n 0, 1) := by decide +kernel
theorem dX5_payment_70 : decode cX5_payment 70 = .ok (.getfield 10, 3) := by decide +kernel
theorem dX5_payment_73 : decode cX5_payment 73 = .ok (.aload_n 3, 1) := by decide +kernel
theorem dX5_payment_74 : decode cX5_payment 74 = .ok (.invokevirtual 142, 3) := by decide +kernel
theorem dX5_payment_77 : decode cX5_payment 77 = .ok (.ifCond .eq 7, 3) := by decide +kernel
theorem dX5_payment_80 : decode cX5_payment 80 = .ok (.iconst 1, 1) := by decide +kernel
theorem dX5_payment_81 : decode cX5_payment 81 = .ok (.goto 4, 3) := by decide +kernel
theorem dX5_payment_84 : decode cX5_payment 84 = .ok (.iconst 0, 1) := by decide +kernel
theorem dX5_payment_85 : decode cX5_payment 85 = .ok (.ireturn, 1) := by decide +kernel
theorem dX5_payment_86 : decode cX5_payment 86 = .ok (.new 68, 3) := by decide +kernel
theorem dX5_payment_89 : decode cX5_payment 89 = .ok (.dup, 1) := by decide +kernel
theorem dX5_payment_90 : decode cX5_payment 90 = .ok (.ldc 248, 2) := by decide +kernel
theorem dX5_payment_92 : decode cX5_payment 92 = .ok (.invokespecial 72, 3) := by decide +kernel
theorem dX5_payment_95 : decode cX5_payment 95 = .ok (.athrow, 1) := by decide +kernel
theorem dX5_count_0 : decode cX5_count 0 = .ok (.iload_n 1, 1) := by decide +kernel
theorem dX5_count_1 : decode cX5_count 1 = .ok (.tableswitch 169 0 13 #[71, 79, 87, 95, 103, 111, 119, 127, 135, 143, 143, 143, 156, 164], 71) := by decide +kernel
theorem dX5_count_72 : decode cX5_count 72 = .ok (.aload_n 0, 1) := by decide +kernel
theorem dX5_count_73 : decode cX5_count 73 = .ok (.getfield 10, 3) := by decide +kernel
theorem dX5_count_76 : decode cX5_count 76 = .ok (.getfield 85, 3) := by decide +kernel
theorem dX5_count_79 : decode cX5_count 79 = .ok (.ireturn, 1) := by decide +kernel
theorem dX5_count_80 : decode cX5_count 80 = .ok (.aload_n 0, 1) := by decide +kernel
theorem dX5_count_81 : decode cX5_count 81 = .ok (.getfield 10, 3) := by decide +kernel
theorem dX5_count_84 : decode cX5_count 84 = .ok (.getfield 253, 3) := by decide +kernel
theorem dX5_count_87 : decode cX5_count 87 = .ok (.ireturn, 1) := by decide +kernel
theorem dX5_count_88 : decode cX5_count 88 = .ok (.aload_n 0, 1) := by decide +kernel
theorem dX5_count_89 : decode cX5_count 89 = .ok (.getfield 10, 3) := by decide +kernel
theorem dX5_count_92 : decode cX5_count 92 = .ok (.getfield 123, 3) := by decide +kernel
theorem dX5_count_95 : decode cX5_count 95 = .ok (.ireturn, 1) := by decide +kernel
theorem dX5_count_96 : decode cX5_count 96 = .ok (.aload_n 0, 1) := by decide +kernel
theorem dX5_count_97 : decode cX5_count 97 = .ok (.getfield 10, 3) := by decide +kernel
theorem dX5_count_100 : decode cX5_count 100 = .ok (.invokevirtual 256, 3) := by decide +kernel
theorem dX5_count_103 : decode cX5_count 103 = .ok (.ireturn, 1) := by decide +kernel
theorem dX5_count_104 : decode cX5_count 104 = .ok (.aload_n 0, 1) := by decide +kernel
theorem dX5_count_105 : decode cX5_count 105 = .ok (.getfield 10, 3) := by decide +kernel
theorem dX5_count_108 : decode cX5_count 108 = .ok (.getfield 259, 3) := by decide +kernel
theorem dX5_count_111 : decode cX5_count 111 = .ok (.ireturn, 1) := by decide +kernel
theorem dX5_count_112 : decode cX5_count 112 = .ok (.aload_n 0, 1) := by decide +kernel
theorem dX5_count_113 : decode cX5_count 113 = .ok (.getfield 10, 3) := by decide +kernel
theorem dX5_count_116 : decode cX5_count 116 = .ok (.getfield 262, 3) := by decide +kernel
theorem dX5_count_119 : decode cX5_count 119 = .ok (.ireturn, 1) := by decide +kernel
theorem dX5_count_120 : decode cX5_count 120 = .ok (.aload_n 0, 1) := by decide +kernel
theorem dX5_count_121 : decode cX5_count 121 = .ok (.getfield 10, 3) := by decide +kernel
theorem dX5_count_124 : decode cX5_count 124 = .ok (.getfield 265, 3) := by decide +kernel
theorem dX5_count_127 : decode cX5_count 127 = .ok (.ireturn, 1) := by decide +kernel
theorem dX5_count_128 : decode cX5_count 128 = .ok (.aload_n 0, 1) := by decide +kernel
theorem dX5_count_129 : decode cX5_count 129 = .ok (.getfield 10, 3) := by decide +kernel
theorem dX5_count_132 : decode cX5_count 132 = .ok (.getfield 268, 3) := by decide +kernel
theorem dX5_count_135 : decode cX5_count 135 = .ok (.ireturn, 1) := by decide +kernel
theorem dX5_count_136 : decode cX5_count 136 = .ok (.aload_n 0, 1) := by decide +kernel
theorem dX5_count_137 : decode cX5_count 137 = .ok (.getfield 10, 3) := by decide +kernel
theorem dX5_count_140 : decode cX5_count 140 = .ok (.getfield 271, 3) := by decide +kernel
theorem dX5_count_143 : decode cX5_count 143 = .ok (.ireturn, 1) := by decide +kernel
theorem dX5_count_144 : decode cX5_count 144 = .ok (.aload_n 0, 1) := by decide +kernel
theorem dX5_count_145 : decode cX5_count 145 = .ok (.getfield 10, 3) := by decide +kernel
theorem dX5_count_148 : decode cX5_count 148 = .ok (.getfield 73, 3) := by decide +kernel
theorem dX5_count_151 : decode cX5_count 151 = .ok (.iload_n 1, 1) := by decide +kernel
theorem dX5_count_152 : decode cX5_count 152 = .ok (.bipush 8, 2) := by decide +kernel
theorem dX5_count_154 : decode cX5_count 154 = .ok (.isub, 1) := by decide +kernel
theorem dX5_count_155 : decode cX5_count 155 = .ok (.iaload, 1) := by decide +kernel
theorem dX5_count_156 : decode cX5_count 156 = .ok (.ireturn, 1) := by decide +kernel
theorem dX5_count_157 : decode cX5_count 157 = .ok (.aload_n 0, 1) := by decide +kernel
theorem dX5_count_158 : decode cX5_count 158 = .ok (.getfield 10, 3) := by decide +kernel
theorem dX5_count_161 : decode cX5_count 161 = .ok (.getfield 274, 3) := by decide +kernel
theorem dX5_count_164 : decode cX5_count 164 = .ok (.ireturn, 1) := by decide +kernel
theorem dX5_count_165 : decode cX5_count 165 = .ok (.aload_n 0, 1) := by decide +kernel
theorem dX5_count_166 : decode cX5_count 166 = .ok (.getfield 217, 3) := by decide +kernel
theorem dX5_count_169 : decode cX5_count 169 = .ok (.ireturn, 1) := by decide +kernel
theorem dX5_count_170 : decode cX5_count 170 = .ok (.new 68, 3) := by decide +kernel
theorem dX5_count_173 : decode cX5_count 173 = .ok (.dup, 1) := by decide +kernel
theorem dX5_count_174 : decode cX5_count 174 = .ok (.ldc_w 277, 3) := by decide +kernel
theorem dX5_count_177 : decode cX5_count 177 = .ok (.invokespecial 72, 3) := by decide +kernel
theorem dX5_count_180 : decode cX5_count 180 = .ok (.athrow, 1) := by decide +kernel
theorem dX5_setting_0 : decode cX5_setting 0 = .ok (.iload_n 1, 1) := by decide +kernel
theorem dX5_setting_1 : decode cX5_setting 1 = .ok (.ifCond .lt 8, 3) := by decide +kernel
theorem dX5_setting_4 : decode cX5_setting 4 = .ok (.iload_n 1, 1) := by decide +kernel
theorem dX5_setting_5 : decode cX5_setting 5 = .ok (.iconst 4, 1) := by decide +kernel
theorem dX5_setting_6 : decode cX5_setting 6 = .ok (.if_icmp .lt 13, 3) := by decide +kernel
theorem dX5_setting_9 : decode cX5_setting 9 = .ok (.new 63, 3) := by decide +kernel
theorem dX5_setting_12 : decode cX5_setting 12 = .ok (.dup, 1) := by decide +kernel
theorem dX5_setting_13 : decode cX5_setting 13 = .ok (.ldc 184, 2) := by decide +kernel
theorem dX5_setting_15 : decode cX5_setting 15 = .ok (.invokespecial 67, 3) := by decide +kernel
theorem dX5_setting_18 : decode cX5_setting 18 = .ok (.athrow, 1) := by decide +kernel
theorem dX5_setting_19 : decode cX5_setting 19 = .ok (.aload_n 0, 1) := by decide +kernel
theorem dX5_setting_20 : decode cX5_setting 20 = .ok (.getfield 10, 3) := by decide +kernel
theorem dX5_setting_23 : decode cX5_setting 23 = .ok (.getfield 88, 3) := by decide +kernel
theorem dX5_setting_26 : decode cX5_setting 26 = .ok (.iload_n 1, 1) := by decide +kernel
theorem dX5_setting_27 : decode cX5_setting 27 = .ok (.iaload, 1) := by decide +kernel
theorem dX5_setting_28 : decode cX5_setting 28 = .ok (.ireturn, 1) := by decide +kernel
theorem dX5_ifExchanged_0 : decode cX5_ifExchanged 0 = .ok (.aload_n 0, 1) := by decide +kernel
theorem dX5_ifExchanged_1 : decode cX5_ifExchanged 1 = .ok (.iload_n 1, 1) := by decide +kernel
theorem dX5_ifExchanged_2 : decode cX5_ifExchanged 2 = .ok (.iload_n 2, 1) := by decide +kernel
theorem dX5_ifExchanged_3 : decode cX5_ifExchanged 3 = .ok (.invokevirtual 31, 3) := by decide +kernel
theorem dX5_ifExchanged_6 : decode cX5_ifExchanged 6 = .ok (.astore 5, 2) := by decide +kernel
theorem dX5_ifExchanged_8 : decode cX5_ifExchanged 8 = .ok (.aload_n 0, 1) := by decide +kernel
theorem dX5_ifExchanged_9 : decode cX5_ifExchanged 9 = .ok (.iload_n 1, 1) := by decide +kernel
theorem dX5_ifExchanged_10 : decode cX5_ifExchanged 10 = .ok (.iload_n 3, 1) := by decide +kernel
theorem dX5_ifExchanged_11 : decode cX5_ifExchanged 11 = .ok (.invokevirtual 31, 3) := by decide +kernel
theorem dX5_ifExchanged_14 : decode cX5_ifExchanged 14 = .ok (.astore 6, 2) := by decide +kernel
theorem dX5_ifExchanged_16 : decode cX5_ifExchanged 16 = .ok (.aload_n 0, 1) := by decide +kernel
theorem dX5_ifExchanged_17 : decode cX5_ifExchanged 17 = .ok (.iload 4, 2) := by decide +kernel
theorem dX5_ifExchanged_19 : decode cX5_ifExchanged 19 = .ok (.invokevirtual 35, 3) := by decide +kernel
theorem dX5_ifExchanged_22 : decode cX5_ifExchanged 22 = .ok (.aload_n 0, 1) := by decide +kernel
theorem dX5_ifExchanged_23 : decode cX5_ifExchanged 23 = .ok (.getfield 10, 3) := by decide +kernel
theorem dX5_ifExchanged_26 : decode cX5_ifExchanged 26 = .ok (.aload 5, 2) := by decide +kernel
theorem dX5_ifExchanged_28 : decode cX5_ifExchanged 28 = .ok (.aload 6, 2) := by decide +kernel
theorem dX5_ifExchanged_30 : decode cX5_ifExchanged 30 = .ok (.invokevirtual 279, 3) := by decide +kernel
theorem dX5_ifExchanged_33 : decode cX5_ifExchanged 33 = .ok (.ifCond .eq 19, 3) := by decide +kernel
theorem dX5_ifExchanged_36 : decode cX5_ifExchanged 36 = .ok (.aload_n 0, 1) := by decide +kernel
theorem dX5_ifExchanged_37 : decode cX5_ifExchanged 37 = .ok (.getfield 10, 3) := by decide +kernel
theorem dX5_ifExchanged_40 : decode cX5_ifExchanged 40 = .ok (.aload 5, 2) := by decide +kernel
theorem dX5_ifExchanged_42 : decode cX5_ifExchanged 42 = .ok (.aload 6, 2) := by decide +kernel
theorem dX5_ifExchanged_44 : decode cX5_ifExchanged 44 = .ok (.iload 4, 2) := by decide +kernel
theorem dX5_ifExchanged_46 : decode cX5_ifExchanged 46 = .ok (.invokevirtual 283, 3) := by decide +kernel
theorem dX5_ifExchanged_49 : decode cX5_ifExchanged 49 = .ok (.goto 4, 3) := by decide +kernel
theorem dX5_ifExchanged_52 : decode cX5_ifExchanged 52 = .ok (.iconst (-1), 1) := by decide +kernel
theorem dX5_ifExchanged_53 : decode cX5_ifExchanged 53 = .ok (.ireturn, 1) := by decide +kernel
theorem dX5_needed_0 : decode cX5_needed 0 = .ok (.aload_n 0, 1) := by decide +kernel
theorem dX5_needed_1 : decode cX5_needed 1 = .ok (.iload_n 1, 1) := by decide +kernel
theorem dX5_needed_2 : decode cX5_needed 2 = .ok (.iload_n 2, 1) := by decide +kernel
theorem dX5_needed_3 : decode cX5_needed 3 = .ok (.invokevirtual 76, 3) := by decide +kernel
theorem dX5_needed_6 : decode cX5_needed 6 = .ok (.astore 4, 2) := by decide +kernel
theorem dX5_needed_8 : decode cX5_needed 8 = .ok (.iload_n 3, 1) := by decide +kernel
theorem dX5_needed_9 : decode cX5_needed 9 = .ok (.iconst 1, 1) := by decide +kernel
theorem dX5_needed_10 : decode cX5_needed 10 = .ok (.if_icmp .lt 10, 3) := by decide +kernel
theorem dX5_needed_13 : decode cX5_needed 13 = .ok (.iload_n 3, 1) := by decide +kernel
theorem dX5_needed_14 : decode cX5_needed 14 = .ok (.sipush 9999, 3) := by decide +kernel
theorem dX5_needed_17 : decode cX5_needed 17 = .ok (.if_icmp .le 14, 3) := by decide +kernel
theorem dX5_needed_20 : decode cX5_needed 20 = .ok (.new 68, 3) := by decide +kernel
theorem dX5_needed_23 : decode cX5_needed 23 = .ok (.dup, 1) := by decide +kernel
theorem dX5_needed_24 : decode cX5_needed 24 = .ok (.ldc_w 286, 3) := by decide +kernel
theorem dX5_needed_27 : decode cX5_needed 27 = .ok (.invokespecial 72, 3) := by decide +kernel
theorem dX5_needed_30 : decode cX5_needed 30 = .ok (.athrow, 1) := by decide +kernel
theorem dX5_needed_31 : decode cX5_needed 31 = .ok (.aload_n 0, 1) := by decide +kernel
theorem dX5_needed_32 : decode cX5_needed 32 = .ok (.iload_n 1, 1) := by decide +kernel
theorem dX5_needed_33 : decode cX5_needed 33 = .ok (.iconst 0, 1) := by decide +kernel
theorem dX5_needed_34 : decode cX5_needed 34 = .ok (.invokevirtual 31, 3) := by decide +kernel
theorem dX5_needed_37 : decode cX5_needed 37 = .ok (.astore 5, 2) := by decide +kernel
theorem dX5_needed_39 : decode cX5_needed 39 = .ok (.iconst 0, 1) := by decide +kernel
theorem dX5_needed_40 : decode cX5_needed 40 = .ok (.istore 6, 2) := by decide +kernel
theorem dX5_needed_42 : decode cX5_needed 42 = .ok (.ldc_w 288, 3) := by decide +kernel
theorem dX5_needed_45 : decode cX5_needed 45 = .ok (.istore 7, 2) := by decide +kernel
theorem dX5_needed_47 : decode cX5_needed 47 = .ok (.iload 7, 2) := by decide +kernel
theorem dX5_needed_49 : decode cX5_needed 49 = .ok (.ifCond .le 39, 3) := by decide +kernel
theorem dX5_needed_52 : decode cX5_needed 52 = .ok (.aload_n 0, 1) := by decide +kernel
theorem dX5_needed_53 : decode cX5_needed 53 = .ok (.getfield 10, 3) := by decide +kernel
theorem dX5_needed_56 : decode cX5_needed 56 = .ok (.aload 5, 2) := by decide +kernel
theorem dX5_needed_58 : decode cX5_needed 58 = .ok (.aload 4, 2) := by decide +kernel
theorem dX5_needed_60 : decode cX5_needed 60 = .ok (.iload 6, 2) := by decide +kernel
theorem dX5_needed_62 : decode cX5_needed 62 = .ok (.iload 7, 2) := by decide +kernel
theorem dX5_needed_64 : decode cX5_needed 64 = .ok (.iadd, 1) := by decide +kernel
theorem dX5_needed_65 : decode cX5_needed 65 = .ok (.invokevirtual 283, 3) := by decide +kernel
theorem dX5_needed_68 : decode cX5_needed 68 = .ok (.iload_n 3, 1) := by decide +kernel
theorem dX5_needed_69 : decode cX5_needed 69 = .ok (.if_icmp .ge 10, 3) := by decide +kernel
theorem dX5_needed_72 : decode cX5_needed 72 = .ok (.iload 6, 2) := by decide +kernel
theorem dX5_needed_74 : decode cX5_needed 74 = .ok (.iload 7, 2) := by decide +kernel
theorem dX5_needed_76 : decode cX5_needed 76 = .ok (.iadd, 1) := by decide +kernel
theorem dX5_needed_77 : decode cX5_needed 77 = .ok (.istore 6, 2) := by decide +kernel
theorem dX5_needed_79 : decode cX5_needed 79 = .ok (.iload 7, 2) := by decide +kernel
theorem dX5_needed_81 : decode cX5_needed 81 = .ok (.iconst 2, 1) := by decide +kernel
theorem dX5_needed_82 : decode cX5_needed 82 = .ok (.idiv, 1) := by decide +kernel
theorem dX5_needed_83 : decode cX5_needed 83 = .ok (.istore 7, 2) := by decide +kernel
theorem dX5_needed_85 : decode cX5_needed 85 = .ok (.goto (-38), 3) := by decide +kernel
theorem dX5_needed_88 : decode cX5_needed 88 = .ok (.iload 6, 2) := by decide +kernel
theorem dX5_needed_90 : decode cX5_needed 90 = .ok (.iconst 1, 1) := by decide +kernel
theorem dX5_needed_91 : decode cX5_needed 91 = .ok (.iadd, 1) := by decide +kernel
theorem dX5_needed_92 : decode cX5_needed 92 = .ok (.ireturn, 1) := by decide +kernel
theorem dX5_room_0 : decode cX5_room 0 = .ok (.aload_n 0, 1) := by decide +kernel
theorem dX5_room_1 : decode cX5_room 1 = .ok (.getfield 10, 3) := by decide +kernel
theorem dX5_room_4 : decode cX5_room 4 = .ok (.aload_n 0, 1) := by decide +kernel
theorem dX5_room_5 : decode cX5_room 5 = .ok (.iload_n 1, 1) := by decide +kernel
theorem dX5_room_6 : decode cX5_room 6 = .ok (.iload_n 2, 1) := by decide +kernel
theorem dX5_room_7 : decode cX5_room 7 = .ok (.invokevirtual 31, 3) := by decide +kernel
theorem dX5_room_10 : decode cX5_room 10 = .ok (.invokevirtual 229, 3) := by decide +kernel
theorem dX5_room_13 : decode cX5_room 13 = .ok (.istore_n 3, 1) := by decide +kernel
theorem dX5_room_14 : decode cX5_room 14 = .ok (.iconst 0, 1) := by decide +kernel
theorem dX5_room_15 : decode cX5_room 15 = .ok (.istore 4, 2) := by decide +kernel
theorem dX5_room_17 : decode cX5_room 17 = .ok (.ldc_w 288, 3) := by decide +kernel
theorem dX5_room_20 : decode cX5_room 20 = .ok (.istore 5, 2) := by decide +kernel
theorem dX5_room_22 : decode cX5_room 22 = .ok (.iload 5, 2) := by decide +kernel
theorem dX5_room_24 : decode cX5_room 24 = .ok (.ifCond .le 44, 3) := by decide +kernel
theorem dX5_room_27 : decode cX5_room 27 = .ok (.iload 4, 2) := by decide +kernel
theorem dX5_room_29 : decode cX5_room 29 = .ok (.iload 5, 2) := by decide +kernel
theorem dX5_room_31 : decode cX5_room 31 = .ok (.iadd, 1) := by decide +kernel
theorem dX5_room_32 : decode cX5_room 32 = .ok (.istore 6, 2) := by decide +kernel
theorem dX5_room_34 : decode cX5_room 34 = .ok (.iload 6, 2) := by decide +kernel
theorem dX5_room_36 : decode cX5_room 36 = .ok (.ldc_w 289, 3) := by decide +kernel
theorem dX5_room_39 : decode cX5_room 39 = .ok (.if_icmp .gt 20, 3) := by decide +kernel
theorem dX5_room_42 : decode cX5_room 42 = .ok (.aload_n 0, 1) := by decide +kernel
theorem dX5_room_43 : decode cX5_room 43 = .ok (.getfield 10, 3) := by decide +kernel
theorem dX5_room_46 : decode cX5_room 46 = .ok (.iload 6, 2) := by decide +kernel
theorem dX5_room_48 : decode cX5_room 48 = .ok (.invokevirtual 290, 3) := by decide +kernel
theorem dX5_room_51 : decode cX5_room 51 = .ok (.iload_n 3, 1) := by decide +kernel
theorem dX5_room_52 : decode cX5_room 52 = .ok (.if_icmp .gt 7, 3) := by decide +kernel
theorem dX5_room_55 : decode cX5_room 55 = .ok (.iload 6, 2) := by decide +kernel
theorem dX5_room_57 : decode cX5_room 57 = .ok (.istore 4, 2) := by decide +kernel
theorem dX5_room_59 : decode cX5_room 59 = .ok (.iload 5, 2) := by decide +kernel
theorem dX5_room_61 : decode cX5_room 61 = .ok (.iconst 2, 1) := by decide +kernel
theorem dX5_room_62 : decode cX5_room 62 = .ok (.idiv, 1) := by decide +kernel
theorem dX5_room_63 : decode cX5_room 63 = .ok (.istore 5, 2) := by decide +kernel
theorem dX5_room_65 : decode cX5_room 65 = .ok (.goto (-43), 3) := by decide +kernel
theorem dX5_room_68 : decode cX5_room 68 = .ok (.iload 4, 2) := by decide +kernel
theorem dX5_room_70 : decode cX5_room 70 = .ok (.ireturn, 1) := by decide +kernel
theorem dX5_whyNot_0 : decode cX5_whyNot 0 = .ok (.aload_n 0, 1) := by decide +kernel
theorem dX5_whyNot_1 : decode cX5_whyNot 1 = .ok (.iload_n 2, 1) := by decide +kernel
theorem dX5_whyNot_2 : decode cX5_whyNot 2 = .ok (.iload_n 3, 1) := by decide +kernel
theorem dX5_whyNot_3 : decode cX5_whyNot 3 = .ok (.invokevirtual 31, 3) := by decide +kernel
theorem dX5_whyNot_6 : decode cX5_whyNot 6 = .ok (.astore 6, 2) := by decide +kernel
theorem dX5_whyNot_8 : decode cX5_whyNot 8 = .ok (.aload_n 0, 1) := by decide +kernel
theorem dX5_whyNot_9 : decode cX5_whyNot 9 = .ok (.iload_n 2, 1) := by decide +kernel
theorem dX5_whyNot_10 : decode cX5_whyNot 10 = .ok (.iload 4, 2) := by decide +kernel
theorem dX5_whyNot_12 : decode cX5_whyNot 12 = .ok (.invokevirtual 31, 3) := by decide +kernel
theorem dX5_whyNot_15 : decode cX5_whyNot 15 = .ok (.astore 7, 2) := by decide +kernel
theorem dX5_whyNot_17 : decode cX5_whyNot 17 = .ok (.aload_n 0, 1) := by decide +kernel
theorem dX5_whyNot_18 : decode cX5_whyNot 18 = .ok (.iload 5, 2) := by decide +kernel
theorem dX5_whyNot_20 : decode cX5_whyNot 20 = .ok (.invokevirtual 35, 3) := by decide +kernel
theorem dX5_whyNot_23 : decode cX5_whyNot 23 = .ok (.iload_n 1, 1) := by decide +kernel
theorem dX5_whyNot_24 : decode cX5_whyNot 24 = .ok (.tableswitch 63 0 2 #[28, 42, 54], 28) := by decide +kernel
theorem dX5_whyNot_52 : decode cX5_whyNot 52 = .ok (.aload_n 0, 1) := by decide +kernel
theorem dX5_whyNot_53 : decode cX5_whyNot 53 = .ok (.getfield 10, 3) := by decide +kernel
theorem dX5_whyNot_56 : decode cX5_whyNot 56 = .ok (.aload 6, 2) := by decide +kernel
theorem dX5_whyNot_58 : decode cX5_whyNot 58 = .ok (.aload 7, 2) := by decide +kernel
theorem dX5_whyNot_60 : decode cX5_whyNot 60 = .ok (.iload 5, 2) := by decide +kernel
theorem dX5_whyNot_62 : decode cX5_whyNot 62 = .ok (.invokevirtual 94, 3) := by decide +kernel
theorem dX5_whyNot_65 : decode cX5_whyNot 65 = .ok (.ireturn, 1) := by decide +kernel
theorem dX5_whyNot_66 : decode cX5_whyNot 66 = .ok (.aload_n 0, 1) := by decide +kernel
theorem dX5_whyNot_67 : decode cX5_whyNot 67 = .ok (.getfield 10, 3) := by decide +kernel
theorem dX5_whyNot_70 : decode cX5_whyNot 70 = .ok (.aload 6, 2) := by decide +kernel
theorem dX5_whyNot_72 : decode cX5_whyNot 72 = .ok (.iload 5, 2) := by decide +kernel
theorem dX5_whyNot_74 : decode cX5_whyNot 74 = .ok (.invokevirtual 103, 3) := by decide +kernel
theorem dX5_whyNot_77 : decode cX5_whyNot 77 = .ok (.ireturn, 1) := by decide +kernel
theorem dX5_whyNot_78 : decode cX5_whyNot 78 = .ok (.aload_n 0, 1) := by decide +kernel
theorem dX5_whyNot_79 : decode cX5_whyNot 79 = .ok (.getfield 10, 3) := by decide +kernel
theorem dX5_whyNot_82 : decode cX5_whyNot 82 = .ok (.iload_n 2, 1) := by decide +kernel
theorem dX5_whyNot_83 : decode cX5_whyNot 83 = .ok (.invokevirtual 166, 3) := by decide +kernel
theorem dX5_whyNot_86 : decode cX5_whyNot 86 = .ok (.ireturn, 1) := by decide +kernel
theorem dX5_whyNot_87 : decode cX5_whyNot 87 = .ok (.new 68, 3) := by decide +kernel
theorem dX5_whyNot_90 : decode cX5_whyNot 90 = .ok (.dup, 1) := by decide +kernel
theorem dX5_whyNot_91 : decode cX5_whyNot 91 = .ok (.ldc_w 293, 3) := by decide +kernel
theorem dX5_whyNot_94 : decode cX5_whyNot 94 = .ok (.invokespecial 72, 3) := by decide +kernel
theorem dX5_whyNot_97 : decode cX5_whyNot 97 = .ok (.athrow, 1) := by decide +kernel
theorem dX5_ifClosed_0 : decode cX5_ifClosed 0 = .ok (.aload_n 0, 1) := by decide +kernel
theorem dX5_ifClosed_1 : decode cX5_ifClosed 1 = .ok (.iload_n 1, 1) := by decide +kernel
theorem dX5_ifClosed_2 : decode cX5_ifClosed 2 = .ok (.iconst 0, 1) := by decide +kernel
theorem dX5_ifClosed_3 : decode cX5_ifClosed 3 = .ok (.invokevirtual 31, 3) := by decide +kernel
theorem dX5_ifClosed_6 : decode cX5_ifClosed 6 = .ok (.astore_n 2, 1) := by decide +kernel
theorem dX5_ifClosed_7 : decode cX5_ifClosed 7 = .ok (.aload_n 0, 1) := by decide +kernel
theorem dX5_ifClosed_8 : decode cX5_ifClosed 8 = .ok (.getfield 10, 3) := by decide +kernel
theorem dX5_ifClosed_11 : decode cX5_ifClosed 11 = .ok (.iload_n 1, 1) := by decide +kernel
theorem dX5_ifClosed_12 : decode cX5_ifClosed 12 = .ok (.invokevirtual 166, 3) := by decide +kernel
theorem dX5_ifClosed_15 : decode cX5_ifClosed 15 = .ok (.ifCond .eq 5, 3) := by decide +kernel
theorem dX5_ifClosed_18 : decode cX5_ifClosed 18 = .ok (.iconst (-1), 1) := by decide +kernel
theorem dX5_ifClosed_19 : decode cX5_ifClosed 19 = .ok (.ireturn, 1) := by decide +kernel
theorem dX5_ifClosed_20 : decode cX5_ifClosed 20 = .ok (.aload_n 2, 1) := by decide +kernel
theorem dX5_ifClosed_21 : decode cX5_ifClosed 21 = .ok (.getfield 57, 3) := by decide +kernel
theorem dX5_ifClosed_24 : decode cX5_ifClosed 24 = .ok (.istore_n 3, 1) := by decide +kernel
theorem dX5_ifClosed_25 : decode cX5_ifClosed 25 = .ok (.iconst 1, 1) := by decide +kernel
theorem dX5_ifClosed_26 : decode cX5_ifClosed 26 = .ok (.istore 4, 2) := by decide +kernel
theorem dX5_ifClosed_28 : decode cX5_ifClosed 28 = .ok (.iload 4, 2) := by decide +kernel
