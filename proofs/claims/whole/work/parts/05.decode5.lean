theorem dX6_save_53 : decode cX6_save 53 = .ok (.istore_n 1, 1) := by decide +kernel
theorem dX6_save_54 : decode cX6_save 54 = .ok (.iload_n 1, 1) := by decide +kernel
theorem dX6_save_55 : decode cX6_save 55 = .ok (.sipush 196, 3) := by decide +kernel
theorem dX6_save_58 : decode cX6_save 58 = .ok (.if_icmp .ge 30, 3) := by decide +kernel
theorem dX6_save_61 : decode cX6_save 61 = .ok (.aload_n 0, 1) := by decide +kernel
theorem dX6_save_62 : decode cX6_save 62 = .ok (.getfield 13, 3) := by decide +kernel
theorem dX6_save_65 : decode cX6_save 65 = .ok (.sipush 196, 3) := by decide +kernel
theorem dX6_save_68 : decode cX6_save 68 = .ok (.aload_n 0, 1) := by decide +kernel
theorem dX6_save_69 : decode cX6_save 69 = .ok (.getfield 26, 3) := by decide +kernel
theorem dX6_save_72 : decode cX6_save 72 = .ok (.imul, 1) := by decide +kernel
theorem dX6_save_73 : decode cX6_save 73 = .ok (.iload_n 1, 1) := by decide +kernel
theorem dX6_save_74 : decode cX6_save 74 = .ok (.iadd, 1) := by decide +kernel
theorem dX6_save_75 : decode cX6_save 75 = .ok (.aload_n 0, 1) := by decide +kernel
theorem dX6_save_76 : decode cX6_save 76 = .ok (.getfield 7, 3) := by decide +kernel
theorem dX6_save_79 : decode cX6_save 79 = .ok (.iload_n 1, 1) := by decide +kernel
theorem dX6_save_80 : decode cX6_save 80 = .ok (.iaload, 1) := by decide +kernel
theorem dX6_save_81 : decode cX6_save 81 = .ok (.iastore, 1) := by decide +kernel
theorem dX6_save_82 : decode cX6_save 82 = .ok (.iinc 1 1, 3) := by decide +kernel
theorem dX6_save_85 : decode cX6_save 85 = .ok (.goto (-31), 3) := by decide +kernel
theorem dX6_save_88 : decode cX6_save 88 = .ok (.aload_n 0, 1) := by decide +kernel
theorem dX6_save_89 : decode cX6_save 89 = .ok (.dup, 1) := by decide +kernel
theorem dX6_save_90 : decode cX6_save 90 = .ok (.getfield 26, 3) := by decide +kernel
theorem dX6_save_93 : decode cX6_save 93 = .ok (.iconst 1, 1) := by decide +kernel
theorem dX6_save_94 : decode cX6_save 94 = .ok (.iadd, 1) := by decide +kernel
theorem dX6_save_95 : decode cX6_save 95 = .ok (.putfield 26, 3) := by decide +kernel
theorem dX6_save_98 : decode cX6_save 98 = .ok (.return_, 1) := by decide +kernel
theorem dX6_isWallet_0 : decode cX6_isWallet 0 = .ok (.iload_n 0, 1) := by decide +kernel
theorem dX6_isWallet_1 : decode cX6_isWallet 1 = .ok (.iconst 0, 1) := by decide +kernel
theorem dX6_isWallet_2 : decode cX6_isWallet 2 = .ok (.iconst 3, 1) := by decide +kernel
theorem dX6_isWallet_3 : decode cX6_isWallet 3 = .ok (.invokestatic 29, 3) := by decide +kernel
theorem dX6_isWallet_6 : decode cX6_isWallet 6 = .ok (.ireturn, 1) := by decide +kernel
theorem dX6_isCurrency_0 : decode cX6_isCurrency 0 = .ok (.iload_n 0, 1) := by decide +kernel
theorem dX6_isCurrency_1 : decode cX6_isCurrency 1 = .ok (.iconst 0, 1) := by decide +kernel
theorem dX6_isCurrency_2 : decode cX6_isCurrency 2 = .ok (.iconst 3, 1) := by decide +kernel
theorem dX6_isCurrency_3 : decode cX6_isCurrency 3 = .ok (.invokestatic 29, 3) := by decide +kernel
theorem dX6_isCurrency_6 : decode cX6_isCurrency 6 = .ok (.ireturn, 1) := by decide +kernel
theorem dX6_isPurse_0 : decode cX6_isPurse 0 = .ok (.iload_n 0, 1) := by decide +kernel
theorem dX6_isPurse_1 : decode cX6_isPurse 1 = .ok (.invokestatic 33, 3) := by decide +kernel
theorem dX6_isPurse_4 : decode cX6_isPurse 4 = .ok (.ifCond .eq 14, 3) := by decide +kernel
theorem dX6_isPurse_7 : decode cX6_isPurse 7 = .ok (.iload_n 1, 1) := by decide +kernel
theorem dX6_isPurse_8 : decode cX6_isPurse 8 = .ok (.invokestatic 37, 3) := by decide +kernel
theorem dX6_isPurse_11 : decode cX6_isPurse 11 = .ok (.ifCond .eq 7, 3) := by decide +kernel
theorem dX6_isPurse_14 : decode cX6_isPurse 14 = .ok (.iconst 1, 1) := by decide +kernel
theorem dX6_isPurse_15 : decode cX6_isPurse 15 = .ok (.goto 4, 3) := by decide +kernel
theorem dX6_isPurse_18 : decode cX6_isPurse 18 = .ok (.iconst 0, 1) := by decide +kernel
theorem dX6_isPurse_19 : decode cX6_isPurse 19 = .ok (.ireturn, 1) := by decide +kernel
theorem dX6_isForeign_0 : decode cX6_isForeign 0 = .ok (.iload_n 0, 1) := by decide +kernel
theorem dX6_isForeign_1 : decode cX6_isForeign 1 = .ok (.iload_n 1, 1) := by decide +kernel
theorem dX6_isForeign_2 : decode cX6_isForeign 2 = .ok (.invokestatic 40, 3) := by decide +kernel
theorem dX6_isForeign_5 : decode cX6_isForeign 5 = .ok (.ifCond .eq 11, 3) := by decide +kernel
theorem dX6_isForeign_8 : decode cX6_isForeign 8 = .ok (.iload_n 1, 1) := by decide +kernel
theorem dX6_isForeign_9 : decode cX6_isForeign 9 = .ok (.ifCond .le 7, 3) := by decide +kernel
theorem dX6_isForeign_12 : decode cX6_isForeign 12 = .ok (.iconst 1, 1) := by decide +kernel
theorem dX6_isForeign_13 : decode cX6_isForeign 13 = .ok (.goto 4, 3) := by decide +kernel
theorem dX6_isForeign_16 : decode cX6_isForeign 16 = .ok (.iconst 0, 1) := by decide +kernel
theorem dX6_isForeign_17 : decode cX6_isForeign 17 = .ok (.ireturn, 1) := by decide +kernel
theorem dX6_isMoney_0 : decode cX6_isMoney 0 = .ok (.iload_n 0, 1) := by decide +kernel
theorem dX6_isMoney_1 : decode cX6_isMoney 1 = .ok (.iconst 1, 1) := by decide +kernel
theorem dX6_isMoney_2 : decode cX6_isMoney 2 = .ok (.ldc 44, 2) := by decide +kernel
theorem dX6_isMoney_4 : decode cX6_isMoney 4 = .ok (.invokestatic 29, 3) := by decide +kernel
theorem dX6_isMoney_7 : decode cX6_isMoney 7 = .ok (.ireturn, 1) := by decide +kernel
theorem dX6_at_0 : decode cX6_at 0 = .ok (.bipush 16, 2) := by decide +kernel
theorem dX6_at_2 : decode cX6_at 2 = .ok (.iconst 5, 1) := by decide +kernel
theorem dX6_at_3 : decode cX6_at 3 = .ok (.iconst 4, 1) := by decide +kernel
theorem dX6_at_4 : decode cX6_at 4 = .ok (.iload_n 0, 1) := by decide +kernel
theorem dX6_at_5 : decode cX6_at 5 = .ok (.imul, 1) := by decide +kernel
theorem dX6_at_6 : decode cX6_at 6 = .ok (.iload_n 1, 1) := by decide +kernel
theorem dX6_at_7 : decode cX6_at 7 = .ok (.iadd, 1) := by decide +kernel
theorem dX6_at_8 : decode cX6_at 8 = .ok (.imul, 1) := by decide +kernel
theorem dX6_at_9 : decode cX6_at 9 = .ok (.iadd, 1) := by decide +kernel
theorem dX6_at_10 : decode cX6_at 10 = .ok (.ireturn, 1) := by decide +kernel
theorem dX6_of_0 : decode cX6_of 0 = .ok (.aload_n 0, 1) := by decide +kernel
theorem dX6_of_1 : decode cX6_of 1 = .ok (.getfield 7, 3) := by decide +kernel
theorem dX6_of_4 : decode cX6_of 4 = .ok (.iload_n 1, 1) := by decide +kernel
theorem dX6_of_5 : decode cX6_of 5 = .ok (.iload_n 2, 1) := by decide +kernel
theorem dX6_of_6 : decode cX6_of 6 = .ok (.invokestatic 45, 3) := by decide +kernel
theorem dX6_of_9 : decode cX6_of 9 = .ok (.iload_n 3, 1) := by decide +kernel
theorem dX6_of_10 : decode cX6_of 10 = .ok (.iadd, 1) := by decide +kernel
theorem dX6_of_11 : decode cX6_of 11 = .ok (.iaload, 1) := by decide +kernel
theorem dX6_of_12 : decode cX6_of 12 = .ok (.ireturn, 1) := by decide +kernel
theorem dX6_ofHold_0 : decode cX6_ofHold 0 = .ok (.aload_n 0, 1) := by decide +kernel
theorem dX6_ofHold_1 : decode cX6_ofHold 1 = .ok (.getfield 7, 3) := by decide +kernel
theorem dX6_ofHold_4 : decode cX6_ofHold 4 = .ok (.bipush 96, 2) := by decide +kernel
theorem dX6_ofHold_6 : decode cX6_ofHold 6 = .ok (.iconst 5, 1) := by decide +kernel
theorem dX6_ofHold_7 : decode cX6_ofHold 7 = .ok (.iload_n 1, 1) := by decide +kernel
theorem dX6_ofHold_8 : decode cX6_ofHold 8 = .ok (.imul, 1) := by decide +kernel
theorem dX6_ofHold_9 : decode cX6_ofHold 9 = .ok (.iadd, 1) := by decide +kernel
theorem dX6_ofHold_10 : decode cX6_ofHold 10 = .ok (.iload_n 2, 1) := by decide +kernel
theorem dX6_ofHold_11 : decode cX6_ofHold 11 = .ok (.iadd, 1) := by decide +kernel
theorem dX6_ofHold_12 : decode cX6_ofHold 12 = .ok (.iaload, 1) := by decide +kernel
theorem dX6_ofHold_13 : decode cX6_ofHold 13 = .ok (.ireturn, 1) := by decide +kernel
theorem dX6_ofPayment_0 : decode cX6_ofPayment 0 = .ok (.aload_n 0, 1) := by decide +kernel
theorem dX6_ofPayment_1 : decode cX6_ofPayment 1 = .ok (.getfield 7, 3) := by decide +kernel
theorem dX6_ofPayment_4 : decode cX6_ofPayment 4 = .ok (.sipush 136, 3) := by decide +kernel
theorem dX6_ofPayment_7 : decode cX6_ofPayment 7 = .ok (.iconst 5, 1) := by decide +kernel
theorem dX6_ofPayment_8 : decode cX6_ofPayment 8 = .ok (.iload_n 1, 1) := by decide +kernel
theorem dX6_ofPayment_9 : decode cX6_ofPayment 9 = .ok (.imul, 1) := by decide +kernel
theorem dX6_ofPayment_10 : decode cX6_ofPayment 10 = .ok (.iadd, 1) := by decide +kernel
theorem dX6_ofPayment_11 : decode cX6_ofPayment 11 = .ok (.iload_n 2, 1) := by decide +kernel
theorem dX6_ofPayment_12 : decode cX6_ofPayment 12 = .ok (.iadd, 1) := by decide +kernel
theorem dX6_ofPayment_13 : decode cX6_ofPayment 13 = .ok (.iaload, 1) := by decide +kernel
theorem dX6_ofPayment_14 : decode cX6_ofPayment 14 = .ok (.ireturn, 1) := by decide +kernel
theorem dX6_isHold_0 : decode cX6_isHold 0 = .ok (.iload_n 1, 1) := by decide +kernel
theorem dX6_isHold_1 : decode cX6_isHold 1 = .ok (.iconst 0, 1) := by decide +kernel
theorem dX6_isHold_2 : decode cX6_isHold 2 = .ok (.aload_n 0, 1) := by decide +kernel
theorem dX6_isHold_3 : decode cX6_isHold 3 = .ok (.getfield 7, 3) := by decide +kernel
theorem dX6_isHold_6 : decode cX6_isHold 6 = .ok (.bipush 8, 2) := by decide +kernel
theorem dX6_isHold_8 : decode cX6_isHold 8 = .ok (.iaload, 1) := by decide +kernel
theorem dX6_isHold_9 : decode cX6_isHold 9 = .ok (.iconst 1, 1) := by decide +kernel
theorem dX6_isHold_10 : decode cX6_isHold 10 = .ok (.isub, 1) := by decide +kernel
theorem dX6_isHold_11 : decode cX6_isHold 11 = .ok (.invokestatic 29, 3) := by decide +kernel
theorem dX6_isHold_14 : decode cX6_isHold 14 = .ok (.ireturn, 1) := by decide +kernel
theorem dX6_isPayment_0 : decode cX6_isPayment 0 = .ok (.iload_n 1, 1) := by decide +kernel
theorem dX6_isPayment_1 : decode cX6_isPayment 1 = .ok (.iconst 0, 1) := by decide +kernel
theorem dX6_isPayment_2 : decode cX6_isPayment 2 = .ok (.aload_n 0, 1) := by decide +kernel
theorem dX6_isPayment_3 : decode cX6_isPayment 3 = .ok (.getfield 7, 3) := by decide +kernel
theorem dX6_isPayment_6 : decode cX6_isPayment 6 = .ok (.bipush 9, 2) := by decide +kernel
theorem dX6_isPayment_8 : decode cX6_isPayment 8 = .ok (.iaload, 1) := by decide +kernel
theorem dX6_isPayment_9 : decode cX6_isPayment 9 = .ok (.iconst 1, 1) := by decide +kernel
theorem dX6_isPayment_10 : decode cX6_isPayment 10 = .ok (.isub, 1) := by decide +kernel
theorem dX6_isPayment_11 : decode cX6_isPayment 11 = .ok (.invokestatic 29, 3) := by decide +kernel
theorem dX6_isPayment_14 : decode cX6_isPayment 14 = .ok (.ireturn, 1) := by decide +kernel
theorem dX6_isOf_0 : decode cX6_isOf 0 = .ok (.aload_n 0, 1) := by decide +kernel
theorem dX6_isOf_1 : decode cX6_isOf 1 = .ok (.getfield 7, 3) := by decide +kernel
theorem dX6_isOf_4 : decode cX6_isOf 4 = .ok (.iload_n 1, 1) := by decide +kernel
theorem dX6_isOf_5 : decode cX6_isOf 5 = .ok (.iconst 0, 1) := by decide +kernel
theorem dX6_isOf_6 : decode cX6_isOf 6 = .ok (.iadd, 1) := by decide +kernel
theorem dX6_isOf_7 : decode cX6_isOf 7 = .ok (.iaload, 1) := by decide +kernel
theorem dX6_isOf_8 : decode cX6_isOf 8 = .ok (.iload_n 2, 1) := by decide +kernel
theorem dX6_isOf_9 : decode cX6_isOf 9 = .ok (.if_icmp .ne 19, 3) := by decide +kernel
theorem dX6_isOf_12 : decode cX6_isOf 12 = .ok (.aload_n 0, 1) := by decide +kernel
theorem dX6_isOf_13 : decode cX6_isOf 13 = .ok (.getfield 7, 3) := by decide +kernel
theorem dX6_isOf_16 : decode cX6_isOf 16 = .ok (.iload_n 1, 1) := by decide +kernel
theorem dX6_isOf_17 : decode cX6_isOf 17 = .ok (.iconst 1, 1) := by decide +kernel
theorem dX6_isOf_18 : decode cX6_isOf 18 = .ok (.iadd, 1) := by decide +kernel
theorem dX6_isOf_19 : decode cX6_isOf 19 = .ok (.iaload, 1) := by decide +kernel
theorem dX6_isOf_20 : decode cX6_isOf 20 = .ok (.iload_n 3, 1) := by decide +kernel
theorem dX6_isOf_21 : decode cX6_isOf 21 = .ok (.if_icmp .ne 7, 3) := by decide +kernel
theorem dX6_isOf_24 : decode cX6_isOf 24 = .ok (.iconst 1, 1) := by decide +kernel
theorem dX6_isOf_25 : decode cX6_isOf 25 = .ok (.goto 4, 3) := by decide +kernel
theorem dX6_isOf_28 : decode cX6_isOf 28 = .ok (.iconst 0, 1) := by decide +kernel
theorem dX6_isOf_29 : decode cX6_isOf 29 = .ok (.ireturn, 1) := by decide +kernel
theorem dX6_keptOf_0 : decode cX6_keptOf 0 = .ok (.iconst 0, 1) := by decide +kernel
theorem dX6_keptOf_1 : decode cX6_keptOf 1 = .ok (.istore_n 3, 1) := by decide +kernel
theorem dX6_keptOf_2 : decode cX6_keptOf 2 = .ok (.iconst 0, 1) := by decide +kernel
theorem dX6_keptOf_3 : decode cX6_keptOf 3 = .ok (.istore 4, 2) := by decide +kernel
theorem dX6_keptOf_5 : decode cX6_keptOf 5 = .ok (.iload 4, 2) := by decide +kernel
theorem dX6_keptOf_7 : decode cX6_keptOf 7 = .ok (.aload_n 0, 1) := by decide +kernel
theorem dX6_keptOf_8 : decode cX6_keptOf 8 = .ok (.getfield 7, 3) := by decide +kernel
theorem dX6_keptOf_11 : decode cX6_keptOf 11 = .ok (.bipush 8, 2) := by decide +kernel
theorem dX6_keptOf_13 : decode cX6_keptOf 13 = .ok (.iaload, 1) := by decide +kernel
theorem dX6_keptOf_14 : decode cX6_keptOf 14 = .ok (.if_icmp .ge 39, 3) := by decide +kernel
theorem dX6_keptOf_17 : decode cX6_keptOf 17 = .ok (.iload_n 3, 1) := by decide +kernel
theorem dX6_keptOf_18 : decode cX6_keptOf 18 = .ok (.aload_n 0, 1) := by decide +kernel
theorem dX6_keptOf_19 : decode cX6_keptOf 19 = .ok (.bipush 96, 2) := by decide +kernel
theorem dX6_keptOf_21 : decode cX6_keptOf 21 = .ok (.iconst 5, 1) := by decide +kernel
theorem dX6_keptOf_22 : decode cX6_keptOf 22 = .ok (.iload 4, 2) := by decide +kernel
theorem dX6_keptOf_24 : decode cX6_keptOf 24 = .ok (.imul, 1) := by decide +kernel
theorem dX6_keptOf_25 : decode cX6_keptOf 25 = .ok (.iadd, 1) := by decide +kernel
theorem dX6_keptOf_26 : decode cX6_keptOf 26 = .ok (.iload_n 1, 1) := by decide +kernel
theorem dX6_keptOf_27 : decode cX6_keptOf 27 = .ok (.iload_n 2, 1) := by decide +kernel
theorem dX6_keptOf_28 : decode cX6_keptOf 28 = .ok (.invokevirtual 49, 3) := by decide +kernel
theorem dX6_keptOf_31 : decode cX6_keptOf 31 = .ok (.ifCond .eq 13, 3) := by decide +kernel
theorem dX6_keptOf_34 : decode cX6_keptOf 34 = .ok (.aload_n 0, 1) := by decide +kernel
theorem dX6_keptOf_35 : decode cX6_keptOf 35 = .ok (.iload 4, 2) := by decide +kernel
theorem dX6_keptOf_37 : decode cX6_keptOf 37 = .ok (.iconst 3, 1) := by decide +kernel
theorem dX6_keptOf_38 : decode cX6_keptOf 38 = .ok (.invokevirtual 52, 3) := by decide +kernel
theorem dX6_keptOf_41 : decode cX6_keptOf 41 = .ok (.goto 4, 3) := by decide +kernel
theorem dX6_keptOf_44 : decode cX6_keptOf 44 = .ok (.iconst 0, 1) := by decide +kernel
theorem dX6_keptOf_45 : decode cX6_keptOf 45 = .ok (.iadd, 1) := by decide +kernel
theorem dX6_keptOf_46 : decode cX6_keptOf 46 = .ok (.istore_n 3, 1) := by decide +kernel
theorem dX6_keptOf_47 : decode cX6_keptOf 47 = .ok (.iinc 4 1, 3) := by decide +kernel
theorem dX6_keptOf_50 : decode cX6_keptOf 50 = .ok (.goto (-45), 3) := by decide +kernel
theorem dX6_keptOf_53 : decode cX6_keptOf 53 = .ok (.iload_n 3, 1) := by decide +kernel
theorem dX6_keptOf_54 : decode cX6_keptOf 54 = .ok (.ireturn, 1) := by decide +kernel
theorem dX6_freeOf_0 : decode cX6_freeOf 0 = .ok (.aload_n 0, 1) := by decide +kernel
theorem dX6_freeOf_1 : decode cX6_freeOf 1 = .ok (.iload_n 1, 1) := by decide +kernel
theorem dX6_freeOf_2 : decode cX6_freeOf 2 = .ok (.iload_n 2, 1) := by decide +kernel
theorem dX6_freeOf_3 : decode cX6_freeOf 3 = .ok (.iconst 0, 1) := by decide +kernel
theorem dX6_freeOf_4 : decode cX6_freeOf 4 = .ok (.invokevirtual 55, 3) := by decide +kernel
theorem dX6_freeOf_7 : decode cX6_freeOf 7 = .ok (.aload_n 0, 1) := by decide +kernel
theorem dX6_freeOf_8 : decode cX6_freeOf 8 = .ok (.iload_n 1, 1) := by decide +kernel
theorem dX6_freeOf_9 : decode cX6_freeOf 9 = .ok (.iload_n 2, 1) := by decide +kernel
theorem dX6_freeOf_10 : decode cX6_freeOf 10 = .ok (.invokevirtual 59, 3) := by decide +kernel
theorem dX6_freeOf_13 : decode cX6_freeOf 13 = .ok (.isub, 1) := by decide +kernel
theorem dX6_freeOf_14 : decode cX6_freeOf 14 = .ok (.ireturn, 1) := by decide +kernel
theorem dX6_comeIn_0 : decode cX6_comeIn 0 = .ok (.aload_n 0, 1) := by decide +kernel
theorem dX6_comeIn_1 : decode cX6_comeIn 1 = .ok (.iload_n 1, 1) := by decide +kernel
theorem dX6_comeIn_2 : decode cX6_comeIn 2 = .ok (.iload_n 2, 1) := by decide +kernel
theorem dX6_comeIn_3 : decode cX6_comeIn 3 = .ok (.iconst 1, 1) := by decide +kernel
theorem dX6_comeIn_4 : decode cX6_comeIn 4 = .ok (.invokevirtual 55, 3) := by decide +kernel
theorem dX6_comeIn_7 : decode cX6_comeIn 7 = .ok (.istore 4, 2) := by decide +kernel
theorem dX6_comeIn_9 : decode cX6_comeIn 9 = .ok (.iload 4, 2) := by decide +kernel
theorem dX6_comeIn_11 : decode cX6_comeIn 11 = .ok (.iload_n 3, 1) := by decide +kernel
theorem dX6_comeIn_12 : decode cX6_comeIn 12 = .ok (.if_icmp .ge 8, 3) := by decide +kernel
theorem dX6_comeIn_15 : decode cX6_comeIn 15 = .ok (.iload 4, 2) := by decide +kernel
theorem dX6_comeIn_17 : decode cX6_comeIn 17 = .ok (.goto 4, 3) := by decide +kernel
theorem dX6_comeIn_20 : decode cX6_comeIn 20 = .ok (.iload_n 3, 1) := by decide +kernel
theorem dX6_comeIn_21 : decode cX6_comeIn 21 = .ok (.istore 5, 2) := by decide +kernel
theorem dX6_comeIn_23 : decode cX6_comeIn 23 = .ok (.aload_n 0, 1) := by decide +kernel
theorem dX6_comeIn_24 : decode cX6_comeIn 24 = .ok (.getfield 7, 3) := by decide +kernel
theorem dX6_comeIn_27 : decode cX6_comeIn 27 = .ok (.iload_n 1, 1) := by decide +kernel
theorem dX6_comeIn_28 : decode cX6_comeIn 28 = .ok (.iload_n 2, 1) := by decide +kernel
theorem dX6_comeIn_29 : decode cX6_comeIn 29 = .ok (.invokestatic 45, 3) := by decide +kernel
theorem dX6_comeIn_32 : decode cX6_comeIn 32 = .ok (.iconst 1, 1) := by decide +kernel
theorem dX6_comeIn_33 : decode cX6_comeIn 33 = .ok (.iadd, 1) := by decide +kernel
theorem dX6_comeIn_34 : decode cX6_comeIn 34 = .ok (.dup2, 1) := by decide +kernel
theorem dX6_comeIn_35 : decode cX6_comeIn 35 = .ok (.iaload, 1) := by decide +kernel
theorem dX6_comeIn_36 : decode cX6_comeIn 36 = .ok (.iload 5, 2) := by decide +kernel
theorem dX6_comeIn_38 : decode cX6_comeIn 38 = .ok (.isub, 1) := by decide +kernel
theorem dX6_comeIn_39 : decode cX6_comeIn 39 = .ok (.iastore, 1) := by decide +kernel
theorem dX6_comeIn_40 : decode cX6_comeIn 40 = .ok (.aload_n 0, 1) := by decide +kernel
theorem dX6_comeIn_41 : decode cX6_comeIn 41 = .ok (.getfield 7, 3) := by decide +kernel
theorem dX6_comeIn_44 : decode cX6_comeIn 44 = .ok (.bipush 15, 2) := by decide +kernel
theorem dX6_comeIn_46 : decode cX6_comeIn 46 = .ok (.dup2, 1) := by decide +kernel
theorem dX6_comeIn_47 : decode cX6_comeIn 47 = .ok (.iaload, 1) := by decide +kernel
theorem dX6_comeIn_48 : decode cX6_comeIn 48 = .ok (.iload 5, 2) := by decide +kernel
theorem dX6_comeIn_50 : decode cX6_comeIn 50 = .ok (.iadd, 1) := by decide +kernel
theorem dX6_comeIn_51 : decode cX6_comeIn 51 = .ok (.iastore, 1) := by decide +kernel
theorem dX6_comeIn_52 : decode cX6_comeIn 52 = .ok (.aload_n 0, 1) := by decide +kernel
theorem dX6_comeIn_53 : decode cX6_comeIn 53 = .ok (.getfield 7, 3) := by decide +kernel
theorem dX6_comeIn_56 : decode cX6_comeIn 56 = .ok (.iload_n 1, 1) := by decide +kernel
theorem dX6_comeIn_57 : decode cX6_comeIn 57 = .ok (.iload_n 2, 1) := by decide +kernel
theorem dX6_comeIn_58 : decode cX6_comeIn 58 = .ok (.invokestatic 45, 3) := by decide +kernel
theorem dX6_comeIn_61 : decode cX6_comeIn 61 = .ok (.iconst 0, 1) := by decide +kernel
theorem dX6_comeIn_62 : decode cX6_comeIn 62 = .ok (.iadd, 1) := by decide +kernel
theorem dX6_comeIn_63 : decode cX6_comeIn 63 = .ok (.dup2, 1) := by decide +kernel
theorem dX6_comeIn_64 : decode cX6_comeIn 64 = .ok (.iaload, 1) := by decide +kernel
theorem dX6_comeIn_65 : decode cX6_comeIn 65 = .ok (.iload_n 3, 1) := by decide +kernel
theorem dX6_comeIn_66 : decode cX6_comeIn 66 = .ok (.iload 5, 2) := by decide +kernel
theorem dX6_comeIn_68 : decode cX6_comeIn 68 = .ok (.isub, 1) := by decide +kernel
theorem dX6_comeIn_69 : decode cX6_comeIn 69 = .ok (.iadd, 1) := by decide +kernel
theorem dX6_comeIn_70 : decode cX6_comeIn 70 = .ok (.iastore, 1) := by decide +kernel
theorem dX6_comeIn_71 : decode cX6_comeIn 71 = .ok (.return_, 1) := by decide +kernel
theorem dX6_load_0 : decode cX6_load 0 = .ok (.aload_n 0, 1) := by decide +kernel
theorem dX6_load_1 : decode cX6_load 1 = .ok (.iload_n 1, 1) := by decide +kernel
theorem dX6_load_2 : decode cX6_load 2 = .ok (.invokestatic 33, 3) := by decide +kernel
theorem dX6_load_5 : decode cX6_load 5 = .ok (.ifCond .ne 7, 3) := by decide +kernel
theorem dX6_load_8 : decode cX6_load 8 = .ok (.iconst 1, 1) := by decide +kernel
theorem dX6_load_9 : decode cX6_load 9 = .ok (.goto 28, 3) := by decide +kernel
theorem dX6_load_12 : decode cX6_load 12 = .ok (.iload_n 2, 1) := by decide +kernel
theorem dX6_load_13 : decode cX6_load 13 = .ok (.invokestatic 62, 3) := by decide +kernel
theorem dX6_load_16 : decode cX6_load 16 = .ok (.ifCond .ne 7, 3) := by decide +kernel
theorem dX6_load_19 : decode cX6_load 19 = .ok (.iconst 2, 1) := by decide +kernel
theorem dX6_load_20 : decode cX6_load 20 = .ok (.goto 17, 3) := by decide +kernel
theorem dX6_load_23 : decode cX6_load 23 = .ok (.aload_n 0, 1) := by decide +kernel
theorem dX6_load_24 : decode cX6_load 24 = .ok (.iload_n 1, 1) := by decide +kernel
theorem dX6_load_25 : decode cX6_load 25 = .ok (.iload_n 2, 1) := by decide +kernel
theorem dX6_load_26 : decode cX6_load 26 = .ok (.invokevirtual 65, 3) := by decide +kernel
theorem dX6_load_29 : decode cX6_load 29 = .ok (.ifCond .eq 7, 3) := by decide +kernel
theorem dX6_load_32 : decode cX6_load 32 = .ok (.iconst 0, 1) := by decide +kernel
theorem dX6_load_33 : decode cX6_load 33 = .ok (.goto 4, 3) := by decide +kernel
theorem dX6_load_36 : decode cX6_load 36 = .ok (.iconst 3, 1) := by decide +kernel
theorem dX6_load_37 : decode cX6_load 37 = .ok (.putfield 22, 3) := by decide +kernel
theorem dX6_load_40 : decode cX6_load 40 = .ok (.aload_n 0, 1) := by decide +kernel
theorem dX6_load_41 : decode cX6_load 41 = .ok (.getfield 22, 3) := by decide +kernel
theorem dX6_load_44 : decode cX6_load 44 = .ok (.ifCond .le 5, 3) := by decide +kernel
theorem dX6_load_47 : decode cX6_load 47 = .ok (.iconst 0, 1) := by decide +kernel
theorem dX6_load_48 : decode cX6_load 48 = .ok (.ireturn, 1) := by decide +kernel
theorem dX6_load_49 : decode cX6_load 49 = .ok (.aload_n 0, 1) := by decide +kernel
theorem dX6_load_50 : decode cX6_load 50 = .ok (.invokevirtual 68, 3) := by decide +kernel
theorem dX6_load_53 : decode cX6_load 53 = .ok (.aload_n 0, 1) := by decide +kernel
theorem dX6_load_54 : decode cX6_load 54 = .ok (.iload_n 1, 1) := by decide +kernel
theorem dX6_load_55 : decode cX6_load 55 = .ok (.iload_n 2, 1) := by decide +kernel
theorem dX6_load_56 : decode cX6_load 56 = .ok (.invokevirtual 71, 3) := by decide +kernel
theorem dX6_load_59 : decode cX6_load 59 = .ok (.aload_n 0, 1) := by decide +kernel
theorem dX6_load_60 : decode cX6_load 60 = .ok (.iload_n 1, 1) := by decide +kernel
theorem dX6_load_61 : decode cX6_load 61 = .ok (.iconst 0, 1) := by decide +kernel
theorem dX6_load_62 : decode cX6_load 62 = .ok (.iconst 0, 1) := by decide +kernel
theorem dX6_load_63 : decode cX6_load 63 = .ok (.invokevirtual 55, 3) := by decide +kernel
theorem dX6_load_66 : decode cX6_load 66 = .ok (.ireturn, 1) := by decide +kernel
theorem dX6_canLoad_0 : decode cX6_canLoad 0 = .ok (.aload_n 0, 1) := by decide +kernel
theorem dX6_canLoad_1 : decode cX6_canLoad 1 = .ok (.iload_n 1, 1) := by decide +kernel
theorem dX6_canLoad_2 : decode cX6_canLoad 2 = .ok (.iconst 0, 1) := by decide +kernel
theorem dX6_canLoad_3 : decode cX6_canLoad 3 = .ok (.iconst 0, 1) := by decide +kernel
theorem dX6_canLoad_4 : decode cX6_canLoad 4 = .ok (.invokevirtual 55, 3) := by decide +kernel
theorem dX6_canLoad_7 : decode cX6_canLoad 7 = .ok (.iload_n 2, 1) := by decide +kernel
theorem dX6_canLoad_8 : decode cX6_canLoad 8 = .ok (.iadd, 1) := by decide +kernel
theorem dX6_canLoad_9 : decode cX6_canLoad 9 = .ok (.ldc 75, 2) := by decide +kernel
theorem dX6_canLoad_11 : decode cX6_canLoad 11 = .ok (.if_icmp .gt 7, 3) := by decide +kernel
theorem dX6_canLoad_14 : decode cX6_canLoad 14 = .ok (.iconst 1, 1) := by decide +kernel
theorem dX6_canLoad_15 : decode cX6_canLoad 15 = .ok (.goto 4, 3) := by decide +kernel
theorem dX6_canLoad_18 : decode cX6_canLoad 18 = .ok (.iconst 0, 1) := by decide +kernel
theorem dX6_canLoad_19 : decode cX6_canLoad 19 = .ok (.ireturn, 1) := by decide +kernel
theorem dX6_loads_0 : decode cX6_loads 0 = .ok (.aload_n 0, 1) := by decide +kernel
theorem dX6_loads_1 : decode cX6_loads 1 = .ok (.iload_n 1, 1) := by decide +kernel
theorem dX6_loads_2 : decode cX6_loads 2 = .ok (.iconst 0, 1) := by decide +kernel
theorem dX6_loads_3 : decode cX6_loads 3 = .ok (.iload_n 2, 1) := by decide +kernel
theorem dX6_loads_4 : decode cX6_loads 4 = .ok (.invokevirtual 76, 3) := by decide +kernel
theorem dX6_loads_7 : decode cX6_loads 7 = .ok (.aload_n 0, 1) := by decide +kernel
theorem dX6_loads_8 : decode cX6_loads 8 = .ok (.getfield 7, 3) := by decide +kernel
theorem dX6_loads_11 : decode cX6_loads 11 = .ok (.bipush 10, 2) := by decide +kernel
theorem dX6_loads_13 : decode cX6_loads 13 = .ok (.dup2, 1) := by decide +kernel
theorem dX6_loads_14 : decode cX6_loads 14 = .ok (.iaload, 1) := by decide +kernel
theorem dX6_loads_15 : decode cX6_loads 15 = .ok (.iload_n 2, 1) := by decide +kernel
theorem dX6_loads_16 : decode cX6_loads 16 = .ok (.iadd, 1) := by decide +kernel
theorem dX6_loads_17 : decode cX6_loads 17 = .ok (.iastore, 1) := by decide +kernel
theorem dX6_loads_18 : decode cX6_loads 18 = .ok (.return_, 1) := by decide +kernel
theorem dX6_quote_0 : decode cX6_quote 0 = .ok (.aload_n 0, 1) := by decide +kernel
theorem dX6_quote_1 : decode cX6_quote 1 = .ok (.iload_n 1, 1) := by decide +kernel
theorem dX6_quote_2 : decode cX6_quote 2 = .ok (.iconst 1, 1) := by decide +kernel
theorem dX6_quote_3 : decode cX6_quote 3 = .ok (.iconst 3, 1) := by decide +kernel
theorem dX6_quote_4 : decode cX6_quote 4 = .ok (.invokestatic 29, 3) := by decide +kernel
theorem dX6_quote_7 : decode cX6_quote 7 = .ok (.ifCond .ne 7, 3) := by decide +kernel
theorem dX6_quote_10 : decode cX6_quote 10 = .ok (.iconst 1, 1) := by decide +kernel
theorem dX6_quote_11 : decode cX6_quote 11 = .ok (.goto 20, 3) := by decide +kernel
theorem dX6_quote_14 : decode cX6_quote 14 = .ok (.iload_n 2, 1) := by decide +kernel
theorem dX6_quote_15 : decode cX6_quote 15 = .ok (.bipush 100, 2) := by decide +kernel
theorem dX6_quote_17 : decode cX6_quote 17 = .ok (.sipush 2000, 3) := by decide +kernel
theorem dX6_quote_20 : decode cX6_quote 20 = .ok (.invokestatic 29, 3) := by decide +kernel
theorem dX6_quote_23 : decode cX6_quote 23 = .ok (.ifCond .eq 7, 3) := by decide +kernel
theorem dX6_quote_26 : decode cX6_quote 26 = .ok (.iconst 0, 1) := by decide +kernel
theorem dX6_quote_27 : decode cX6_quote 27 = .ok (.goto 4, 3) := by decide +kernel
theorem dX6_quote_30 : decode cX6_quote 30 = .ok (.iconst 2, 1) := by decide +kernel
theorem dX6_quote_31 : decode cX6_quote 31 = .ok (.putfield 22, 3) := by decide +kernel
theorem dX6_quote_34 : decode cX6_quote 34 = .ok (.aload_n 0, 1) := by decide +kernel
theorem dX6_quote_35 : decode cX6_quote 35 = .ok (.getfield 22, 3) := by decide +kernel
theorem dX6_quote_38 : decode cX6_quote 38 = .ok (.ifCond .le 5, 3) := by decide +kernel
theorem dX6_quote_41 : decode cX6_quote 41 = .ok (.iconst 0, 1) := by decide +kernel
theorem dX6_quote_42 : decode cX6_quote 42 = .ok (.ireturn, 1) := by decide +kernel
theorem dX6_quote_43 : decode cX6_quote 43 = .ok (.aload_n 0, 1) := by decide +kernel
theorem dX6_quote_44 : decode cX6_quote 44 = .ok (.invokevirtual 68, 3) := by decide +kernel
theorem dX6_quote_47 : decode cX6_quote 47 = .ok (.aload_n 0, 1) := by decide +kernel
theorem dX6_quote_48 : decode cX6_quote 48 = .ok (.getfield 7, 3) := by decide +kernel
theorem dX6_quote_51 : decode cX6_quote 51 = .ok (.iconst 4, 1) := by decide +kernel
theorem dX6_quote_52 : decode cX6_quote 52 = .ok (.iload_n 1, 1) := by decide +kernel
theorem dX6_quote_53 : decode cX6_quote 53 = .ok (.iadd, 1) := by decide +kernel
theorem dX6_quote_54 : decode cX6_quote 54 = .ok (.iaload, 1) := by decide +kernel
theorem dX6_quote_55 : decode cX6_quote 55 = .ok (.istore_n 3, 1) := by decide +kernel
theorem dX6_quote_56 : decode cX6_quote 56 = .ok (.aload_n 0, 1) := by decide +kernel
theorem dX6_quote_57 : decode cX6_quote 57 = .ok (.getfield 7, 3) := by decide +kernel
theorem dX6_quote_60 : decode cX6_quote 60 = .ok (.iconst 4, 1) := by decide +kernel
theorem dX6_quote_61 : decode cX6_quote 61 = .ok (.iload_n 1, 1) := by decide +kernel
theorem dX6_quote_62 : decode cX6_quote 62 = .ok (.iadd, 1) := by decide +kernel
theorem dX6_quote_63 : decode cX6_quote 63 = .ok (.iload_n 2, 1) := by decide +kernel
theorem dX6_quote_64 : decode cX6_quote 64 = .ok (.iastore, 1) := by decide +kernel
theorem dX6_quote_65 : decode cX6_quote 65 = .ok (.iload_n 3, 1) := by decide +kernel
theorem dX6_quote_66 : decode cX6_quote 66 = .ok (.ireturn, 1) := by decide +kernel
theorem dX6_isLocked_0 : decode cX6_isLocked 0 = .ok (.aload_n 0, 1) := by decide +kernel
theorem dX6_isLocked_1 : decode cX6_isLocked 1 = .ok (.iload_n 1, 1) := by decide +kernel
theorem dX6_isLocked_2 : decode cX6_isLocked 2 = .ok (.iload_n 2, 1) := by decide +kernel
theorem dX6_isLocked_3 : decode cX6_isLocked 3 = .ok (.iconst 2, 1) := by decide +kernel
theorem dX6_isLocked_4 : decode cX6_isLocked 4 = .ok (.invokevirtual 55, 3) := by decide +kernel
theorem dX6_isLocked_7 : decode cX6_isLocked 7 = .ok (.ifCond .le 23, 3) := by decide +kernel
theorem dX6_isLocked_10 : decode cX6_isLocked 10 = .ok (.aload_n 0, 1) := by decide +kernel
theorem dX6_isLocked_11 : decode cX6_isLocked 11 = .ok (.iload_n 1, 1) := by decide +kernel
theorem dX6_isLocked_12 : decode cX6_isLocked 12 = .ok (.iload_n 2, 1) := by decide +kernel
theorem dX6_isLocked_13 : decode cX6_isLocked 13 = .ok (.iconst 3, 1) := by decide +kernel
theorem dX6_isLocked_14 : decode cX6_isLocked 14 = .ok (.invokevirtual 55, 3) := by decide +kernel
theorem dX6_isLocked_17 : decode cX6_isLocked 17 = .ok (.aload_n 0, 1) := by decide +kernel
theorem dX6_isLocked_18 : decode cX6_isLocked 18 = .ok (.getfield 7, 3) := by decide +kernel
theorem dX6_isLocked_21 : decode cX6_isLocked 21 = .ok (.iconst 4, 1) := by decide +kernel
theorem dX6_isLocked_22 : decode cX6_isLocked 22 = .ok (.iaload, 1) := by decide +kernel
theorem dX6_isLocked_23 : decode cX6_isLocked 23 = .ok (.if_icmp .lt 7, 3) := by decide +kernel
theorem dX6_isLocked_26 : decode cX6_isLocked 26 = .ok (.iconst 1, 1) := by decide +kernel
theorem dX6_isLocked_27 : decode cX6_isLocked 27 = .ok (.goto 4, 3) := by decide +kernel
theorem dX6_isLocked_30 : decode cX6_isLocked 30 = .ok (.iconst 0, 1) := by decide +kernel
theorem dX6_isLocked_31 : decode cX6_isLocked 31 = .ok (.ireturn, 1) := by decide +kernel
theorem dX6_rateOf_0 : decode cX6_rateOf 0 = .ok (.iload_n 2, 1) := by decide +kernel
theorem dX6_rateOf_1 : decode cX6_rateOf 1 = .ok (.ifCond .ne 9, 3) := by decide +kernel
theorem dX6_rateOf_4 : decode cX6_rateOf 4 = .ok (.sipush 1000, 3) := by decide +kernel
theorem dX6_rateOf_7 : decode cX6_rateOf 7 = .ok (.goto 30, 3) := by decide +kernel
theorem dX6_rateOf_10 : decode cX6_rateOf 10 = .ok (.aload_n 0, 1) := by decide +kernel
theorem dX6_rateOf_11 : decode cX6_rateOf 11 = .ok (.iload_n 1, 1) := by decide +kernel
theorem dX6_rateOf_12 : decode cX6_rateOf 12 = .ok (.iload_n 2, 1) := by decide +kernel
theorem dX6_rateOf_13 : decode cX6_rateOf 13 = .ok (.invokevirtual 80, 3) := by decide +kernel
theorem dX6_rateOf_16 : decode cX6_rateOf 16 = .ok (.ifCond .eq 13, 3) := by decide +kernel
theorem dX6_rateOf_19 : decode cX6_rateOf 19 = .ok (.aload_n 0, 1) := by decide +kernel
theorem dX6_rateOf_20 : decode cX6_rateOf 20 = .ok (.iload_n 1, 1) := by decide +kernel
theorem dX6_rateOf_21 : decode cX6_rateOf 21 = .ok (.iload_n 2, 1) := by decide +kernel
theorem dX6_rateOf_22 : decode cX6_rateOf 22 = .ok (.iconst 2, 1) := by decide +kernel
theorem dX6_rateOf_23 : decode cX6_rateOf 23 = .ok (.invokevirtual 55, 3) := by decide +kernel
theorem dX6_rateOf_26 : decode cX6_rateOf 26 = .ok (.goto 11, 3) := by decide +kernel
theorem dX6_rateOf_29 : decode cX6_rateOf 29 = .ok (.aload_n 0, 1) := by decide +kernel
theorem dX6_rateOf_30 : decode cX6_rateOf 30 = .ok (.getfield 7, 3) := by decide +kernel
theorem dX6_rateOf_33 : decode cX6_rateOf 33 = .ok (.iconst 4, 1) := by decide +kernel
theorem dX6_rateOf_34 : decode cX6_rateOf 34 = .ok (.iload_n 2, 1) := by decide +kernel
theorem dX6_rateOf_35 : decode cX6_rateOf 35 = .ok (.iadd, 1) := by decide +kernel
theorem dX6_rateOf_36 : decode cX6_rateOf 36 = .ok (.iaload, 1) := by decide +kernel
theorem dX6_rateOf_37 : decode cX6_rateOf 37 = .ok (.ireturn, 1) := by decide +kernel
theorem dX6_lock_0 : decode cX6_lock 0 = .ok (.aload_n 0, 1) := by decide +kernel
theorem dX6_lock_1 : decode cX6_lock 1 = .ok (.iload_n 1, 1) := by decide +kernel
theorem dX6_lock_2 : decode cX6_lock 2 = .ok (.iload_n 2, 1) := by decide +kernel
theorem dX6_lock_3 : decode cX6_lock 3 = .ok (.invokestatic 83, 3) := by decide +kernel
theorem dX6_lock_6 : decode cX6_lock 6 = .ok (.ifCond .eq 7, 3) := by decide +kernel
theorem dX6_lock_9 : decode cX6_lock 9 = .ok (.iconst 0, 1) := by decide +kernel
theorem dX6_lock_10 : decode cX6_lock 10 = .ok (.goto 4, 3) := by decide +kernel
theorem dX6_lock_13 : decode cX6_lock 13 = .ok (.iconst 1, 1) := by decide +kernel
theorem dX6_lock_14 : decode cX6_lock 14 = .ok (.putfield 22, 3) := by decide +kernel
theorem dX6_lock_17 : decode cX6_lock 17 = .ok (.aload_n 0, 1) := by decide +kernel
theorem dX6_lock_18 : decode cX6_lock 18 = .ok (.getfield 22, 3) := by decide +kernel
theorem dX6_lock_21 : decode cX6_lock 21 = .ok (.ifCond .le 5, 3) := by decide +kernel
theorem dX6_lock_24 : decode cX6_lock 24 = .ok (.iconst 0, 1) := by decide +kernel
theorem dX6_lock_25 : decode cX6_lock 25 = .ok (.ireturn, 1) := by decide +kernel
theorem dX6_lock_26 : decode cX6_lock 26 = .ok (.aload_n 0, 1) := by decide +kernel
theorem dX6_lock_27 : decode cX6_lock 27 = .ok (.invokevirtual 68, 3) := by decide +kernel
theorem dX6_lock_30 : decode cX6_lock 30 = .ok (.aload_n 0, 1) := by decide +kernel
theorem dX6_lock_31 : decode cX6_lock 31 = .ok (.getfield 7, 3) := by decide +kernel
theorem dX6_lock_34 : decode cX6_lock 34 = .ok (.iload_n 1, 1) := by decide +kernel
theorem dX6_lock_35 : decode cX6_lock 35 = .ok (.iload_n 2, 1) := by decide +kernel
theorem dX6_lock_36 : decode cX6_lock 36 = .ok (.invokestatic 45, 3) := by decide +kernel
theorem dX6_lock_39 : decode cX6_lock 39 = .ok (.iconst 2, 1) := by decide +kernel
theorem dX6_lock_40 : decode cX6_lock 40 = .ok (.iadd, 1) := by decide +kernel
theorem dX6_lock_41 : decode cX6_lock 41 = .ok (.aload_n 0, 1) := by decide +kernel
theorem dX6_lock_42 : decode cX6_lock 42 = .ok (.getfield 7, 3) := by decide +kernel
theorem dX6_lock_45 : decode cX6_lock 45 = .ok (.iconst 4, 1) := by decide +kernel
theorem dX6_lock_46 : decode cX6_lock 46 = .ok (.iload_n 2, 1) := by decide +kernel
theorem dX6_lock_47 : decode cX6_lock 47 = .ok (.iadd, 1) := by decide +kernel
theorem dX6_lock_48 : decode cX6_lock 48 = .ok (.iaload, 1) := by decide +kernel
theorem dX6_lock_49 : decode cX6_lock 49 = .ok (.iastore, 1) := by decide +kernel
theorem dX6_lock_50 : decode cX6_lock 50 = .ok (.aload_n 0, 1) := by decide +kernel
theorem dX6_lock_51 : decode cX6_lock 51 = .ok (.getfield 7, 3) := by decide +kernel
theorem dX6_lock_54 : decode cX6_lock 54 = .ok (.iload_n 1, 1) := by decide +kernel
theorem dX6_lock_55 : decode cX6_lock 55 = .ok (.iload_n 2, 1) := by decide +kernel
theorem dX6_lock_56 : decode cX6_lock 56 = .ok (.invokestatic 45, 3) := by decide +kernel
theorem dX6_lock_59 : decode cX6_lock 59 = .ok (.iconst 3, 1) := by decide +kernel
theorem dX6_lock_60 : decode cX6_lock 60 = .ok (.iadd, 1) := by decide +kernel
theorem dX6_lock_61 : decode cX6_lock 61 = .ok (.aload_n 0, 1) := by decide +kernel
theorem dX6_lock_62 : decode cX6_lock 62 = .ok (.getfield 7, 3) := by decide +kernel
theorem dX6_lock_65 : decode cX6_lock 65 = .ok (.iconst 4, 1) := by decide +kernel
theorem dX6_lock_66 : decode cX6_lock 66 = .ok (.iaload, 1) := by decide +kernel
theorem dX6_lock_67 : decode cX6_lock 67 = .ok (.aload_n 0, 1) := by decide +kernel
theorem dX6_lock_68 : decode cX6_lock 68 = .ok (.getfield 7, 3) := by decide +kernel
theorem dX6_lock_71 : decode cX6_lock 71 = .ok (.iconst 0, 1) := by decide +kernel
theorem dX6_lock_72 : decode cX6_lock 72 = .ok (.iaload, 1) := by decide +kernel
theorem dX6_lock_73 : decode cX6_lock 73 = .ok (.iadd, 1) := by decide +kernel
theorem dX6_lock_74 : decode cX6_lock 74 = .ok (.iastore, 1) := by decide +kernel
theorem dX6_lock_75 : decode cX6_lock 75 = .ok (.aload_n 0, 1) := by decide +kernel
theorem dX6_lock_76 : decode cX6_lock 76 = .ok (.getfield 7, 3) := by decide +kernel
theorem dX6_lock_79 : decode cX6_lock 79 = .ok (.iconst 4, 1) := by decide +kernel
theorem dX6_lock_80 : decode cX6_lock 80 = .ok (.iaload, 1) := by decide +kernel
theorem dX6_lock_81 : decode cX6_lock 81 = .ok (.aload_n 0, 1) := by decide +kernel
theorem dX6_lock_82 : decode cX6_lock 82 = .ok (.getfield 7, 3) := by decide +kernel
theorem dX6_lock_85 : decode cX6_lock 85 = .ok (.iconst 0, 1) := by decide +kernel
theorem dX6_lock_86 : decode cX6_lock 86 = .ok (.iaload, 1) := by decide +kernel
theorem dX6_lock_87 : decode cX6_lock 87 = .ok (.iadd, 1) := by decide +kernel
theorem dX6_lock_88 : decode cX6_lock 88 = .ok (.ireturn, 1) := by decide +kernel
theorem dX6_given_0 : decode cX6_given 0 = .ok (.iload_n 2, 1) := by decide +kernel
theorem dX6_given_1 : decode cX6_given 1 = .ok (.ifCond .ne 22, 3) := by decide +kernel
theorem dX6_given_4 : decode cX6_given 4 = .ok (.ldc2_w 86, 3) := by decide +kernel
theorem dX6_given_7 : decode cX6_given 7 = .ok (.iload 4, 2) := by decide +kernel
theorem dX6_given_9 : decode cX6_given 9 = .ok (.i2l, 1) := by decide +kernel
theorem dX6_given_10 : decode cX6_given 10 = .ok (.lmul, 1) := by decide +kernel
theorem dX6_given_11 : decode cX6_given 11 = .ok (.aload_n 0, 1) := by decide +kernel
theorem dX6_given_12 : decode cX6_given 12 = .ok (.iload_n 1, 1) := by decide +kernel
theorem dX6_given_13 : decode cX6_given 13 = .ok (.iload_n 3, 1) := by decide +kernel
theorem dX6_given_14 : decode cX6_given 14 = .ok (.invokevirtual 88, 3) := by decide +kernel
theorem dX6_given_17 : decode cX6_given 17 = .ok (.i2l, 1) := by decide +kernel
theorem dX6_given_18 : decode cX6_given 18 = .ok (.ldiv, 1) := by decide +kernel
theorem dX6_given_19 : decode cX6_given 19 = .ok (.l2i, 1) := by decide +kernel
theorem dX6_given_20 : decode cX6_given 20 = .ok (.goto 19, 3) := by decide +kernel
theorem dX6_given_23 : decode cX6_given 23 = .ok (.iload 4, 2) := by decide +kernel
theorem dX6_given_25 : decode cX6_given 25 = .ok (.i2l, 1) := by decide +kernel
theorem dX6_given_26 : decode cX6_given 26 = .ok (.aload_n 0, 1) := by decide +kernel
theorem dX6_given_27 : decode cX6_given 27 = .ok (.iload_n 1, 1) := by decide +kernel
theorem dX6_given_28 : decode cX6_given 28 = .ok (.iload_n 2, 1) := by decide +kernel
theorem dX6_given_29 : decode cX6_given 29 = .ok (.invokevirtual 88, 3) := by decide +kernel
theorem dX6_given_32 : decode cX6_given 32 = .ok (.i2l, 1) := by decide +kernel
theorem dX6_given_33 : decode cX6_given 33 = .ok (.lmul, 1) := by decide +kernel
theorem dX6_given_34 : decode cX6_given 34 = .ok (.ldc2_w 86, 3) := by decide +kernel
theorem dX6_given_37 : decode cX6_given 37 = .ok (.ldiv, 1) := by decide +kernel
theorem dX6_given_38 : decode cX6_given 38 = .ok (.l2i, 1) := by decide +kernel
theorem dX6_given_39 : decode cX6_given 39 = .ok (.ireturn, 1) := by decide +kernel
theorem dX6_spreadOf_0 : decode cX6_spreadOf 0 = .ok (.iload_n 1, 1) := by decide +kernel
theorem dX6_spreadOf_1 : decode cX6_spreadOf 1 = .ok (.i2l, 1) := by decide +kernel
theorem dX6_spreadOf_2 : decode cX6_spreadOf 2 = .ok (.aload_n 0, 1) := by decide +kernel
theorem dX6_spreadOf_3 : decode cX6_spreadOf 3 = .ok (.getfield 7, 3) := by decide +kernel
theorem dX6_spreadOf_6 : decode cX6_spreadOf 6 = .ok (.iconst 1, 1) := by decide +kernel
theorem dX6_spreadOf_7 : decode cX6_spreadOf 7 = .ok (.iaload, 1) := by decide +kernel
theorem dX6_spreadOf_8 : decode cX6_spreadOf 8 = .ok (.i2l, 1) := by decide +kernel
theorem dX6_spreadOf_9 : decode cX6_spreadOf 9 = .ok (.lmul, 1) := by decide +kernel
theorem dX6_spreadOf_10 : decode cX6_spreadOf 10 = .ok (.ldc2_w 86, 3) := by decide +kernel
theorem dX6_spreadOf_13 : decode cX6_spreadOf 13 = .ok (.ldiv, 1) := by decide +kernel
theorem dX6_spreadOf_14 : decode cX6_spreadOf 14 = .ok (.l2i, 1) := by decide +kernel
theorem dX6_spreadOf_15 : decode cX6_spreadOf 15 = .ok (.ireturn, 1) := by decide +kernel
theorem dX6_brings_0 : decode cX6_brings 0 = .ok (.aload_n 0, 1) := by decide +kernel
theorem dX6_brings_1 : decode cX6_brings 1 = .ok (.iload_n 1, 1) := by decide +kernel
theorem dX6_brings_2 : decode cX6_brings 2 = .ok (.iload_n 2, 1) := by decide +kernel
theorem dX6_brings_3 : decode cX6_brings 3 = .ok (.iload_n 3, 1) := by decide +kernel
theorem dX6_brings_4 : decode cX6_brings 4 = .ok (.iload 4, 2) := by decide +kernel
theorem dX6_brings_6 : decode cX6_brings 6 = .ok (.invokevirtual 91, 3) := by decide +kernel
theorem dX6_brings_9 : decode cX6_brings 9 = .ok (.istore 5, 2) := by decide +kernel
theorem dX6_brings_11 : decode cX6_brings 11 = .ok (.iload 5, 2) := by decide +kernel
theorem dX6_brings_13 : decode cX6_brings 13 = .ok (.aload_n 0, 1) := by decide +kernel
theorem dX6_brings_14 : decode cX6_brings 14 = .ok (.iload 5, 2) := by decide +kernel
theorem dX6_brings_16 : decode cX6_brings 16 = .ok (.invokevirtual 95, 3) := by decide +kernel
theorem dX6_brings_19 : decode cX6_brings 19 = .ok (.isub, 1) := by decide +kernel
theorem dX6_brings_20 : decode cX6_brings 20 = .ok (.ireturn, 1) := by decide +kernel
theorem dX6_isWrongPair_0 : decode cX6_isWrongPair 0 = .ok (.iload_n 0, 1) := by decide +kernel
theorem dX6_isWrongPair_1 : decode cX6_isWrongPair 1 = .ok (.iload_n 1, 1) := by decide +kernel
theorem dX6_isWrongPair_2 : decode cX6_isWrongPair 2 = .ok (.if_icmp .eq 11, 3) := by decide +kernel
theorem dX6_isWrongPair_5 : decode cX6_isWrongPair 5 = .ok (.iload_n 0, 1) := by decide +kernel
theorem dX6_isWrongPair_6 : decode cX6_isWrongPair 6 = .ok (.ifCond .le 11, 3) := by decide +kernel
theorem dX6_isWrongPair_9 : decode cX6_isWrongPair 9 = .ok (.iload_n 1, 1) := by decide +kernel
theorem dX6_isWrongPair_10 : decode cX6_isWrongPair 10 = .ok (.ifCond .le 7, 3) := by decide +kernel
theorem dX6_isWrongPair_13 : decode cX6_isWrongPair 13 = .ok (.iconst 1, 1) := by decide +kernel
theorem dX6_isWrongPair_14 : decode cX6_isWrongPair 14 = .ok (.goto 4, 3) := by decide +kernel
theorem dX6_isWrongPair_17 : decode cX6_isWrongPair 17 = .ok (.iconst 0, 1) := by decide +kernel
theorem dX6_isWrongPair_18 : decode cX6_isWrongPair 18 = .ok (.ireturn, 1) := by decide +kernel
theorem dX6_whyNoExchange_0 : decode cX6_whyNoExchange 0 = .ok (.iload_n 2, 1) := by decide +kernel
theorem dX6_whyNoExchange_1 : decode cX6_whyNoExchange 1 = .ok (.iload_n 3, 1) := by decide +kernel
theorem dX6_whyNoExchange_2 : decode cX6_whyNoExchange 2 = .ok (.invokestatic 99, 3) := by decide +kernel
theorem dX6_whyNoExchange_5 : decode cX6_whyNoExchange 5 = .ok (.ifCond .eq 7, 3) := by decide +kernel
theorem dX6_whyNoExchange_8 : decode cX6_whyNoExchange 8 = .ok (.iconst 1, 1) := by decide +kernel
theorem dX6_whyNoExchange_9 : decode cX6_whyNoExchange 9 = .ok (.goto 19, 3) := by decide +kernel
theorem dX6_whyNoExchange_12 : decode cX6_whyNoExchange 12 = .ok (.aload_n 0, 1) := by decide +kernel
theorem dX6_whyNoExchange_13 : decode cX6_whyNoExchange 13 = .ok (.iload_n 1, 1) := by decide +kernel
theorem dX6_whyNoExchange_14 : decode cX6_whyNoExchange 14 = .ok (.iload_n 2, 1) := by decide +kernel
theorem dX6_whyNoExchange_15 : decode cX6_whyNoExchange 15 = .ok (.invokevirtual 102, 3) := by decide +kernel
theorem dX6_whyNoExchange_18 : decode cX6_whyNoExchange 18 = .ok (.iload 4, 2) := by decide +kernel
theorem dX6_whyNoExchange_20 : decode cX6_whyNoExchange 20 = .ok (.if_icmp .ge 7, 3) := by decide +kernel
theorem dX6_whyNoExchange_23 : decode cX6_whyNoExchange 23 = .ok (.iconst 2, 1) := by decide +kernel
theorem dX6_whyNoExchange_24 : decode cX6_whyNoExchange 24 = .ok (.goto 4, 3) := by decide +kernel
theorem dX6_whyNoExchange_27 : decode cX6_whyNoExchange 27 = .ok (.iconst 0, 1) := by decide +kernel
theorem dX6_whyNoExchange_28 : decode cX6_whyNoExchange 28 = .ok (.ireturn, 1) := by decide +kernel
theorem dX6_exchanges_0 : decode cX6_exchanges 0 = .ok (.aload_n 0, 1) := by decide +kernel
theorem dX6_exchanges_1 : decode cX6_exchanges 1 = .ok (.iload_n 1, 1) := by decide +kernel
theorem dX6_exchanges_2 : decode cX6_exchanges 2 = .ok (.iload_n 2, 1) := by decide +kernel
theorem dX6_exchanges_3 : decode cX6_exchanges 3 = .ok (.iload_n 3, 1) := by decide +kernel
theorem dX6_exchanges_4 : decode cX6_exchanges 4 = .ok (.iload 4, 2) := by decide +kernel
theorem dX6_exchanges_6 : decode cX6_exchanges 6 = .ok (.invokevirtual 91, 3) := by decide +kernel
theorem dX6_exchanges_9 : decode cX6_exchanges 9 = .ok (.istore 5, 2) := by decide +kernel
theorem dX6_exchanges_11 : decode cX6_exchanges 11 = .ok (.aload_n 0, 1) := by decide +kernel
theorem dX6_exchanges_12 : decode cX6_exchanges 12 = .ok (.iload 5, 2) := by decide +kernel
theorem dX6_exchanges_14 : decode cX6_exchanges 14 = .ok (.invokevirtual 95, 3) := by decide +kernel
theorem dX6_exchanges_17 : decode cX6_exchanges 17 = .ok (.istore 6, 2) := by decide +kernel
theorem dX6_exchanges_19 : decode cX6_exchanges 19 = .ok (.aload_n 0, 1) := by decide +kernel
theorem dX6_exchanges_20 : decode cX6_exchanges 20 = .ok (.getfield 7, 3) := by decide +kernel
theorem dX6_exchanges_23 : decode cX6_exchanges 23 = .ok (.iload_n 1, 1) := by decide +kernel
theorem dX6_exchanges_24 : decode cX6_exchanges 24 = .ok (.iload_n 2, 1) := by decide +kernel
theorem dX6_exchanges_25 : decode cX6_exchanges 25 = .ok (.invokestatic 45, 3) := by decide +kernel
theorem dX6_exchanges_28 : decode cX6_exchanges 28 = .ok (.iconst 0, 1) := by decide +kernel
theorem dX6_exchanges_29 : decode cX6_exchanges 29 = .ok (.iadd, 1) := by decide +kernel
theorem dX6_exchanges_30 : decode cX6_exchanges 30 = .ok (.dup2, 1) := by decide +kernel
theorem dX6_exchanges_31 : decode cX6_exchanges 31 = .ok (.iaload, 1) := by decide +kernel
theorem dX6_exchanges_32 : decode cX6_exchanges 32 = .ok (.iload 4, 2) := by decide +kernel
theorem dX6_exchanges_34 : decode cX6_exchanges 34 = .ok (.isub, 1) := by decide +kernel
theorem dX6_exchanges_35 : decode cX6_exchanges 35 = .ok (.iastore, 1) := by decide +kernel
theorem dX6_exchanges_36 : decode cX6_exchanges 36 = .ok (.aload_n 0, 1) := by decide +kernel
theorem dX6_exchanges_37 : decode cX6_exchanges 37 = .ok (.iload_n 1, 1) := by decide +kernel
theorem dX6_exchanges_38 : decode cX6_exchanges 38 = .ok (.iload_n 3, 1) := by decide +kernel
theorem dX6_exchanges_39 : decode cX6_exchanges 39 = .ok (.iload 5, 2) := by decide +kernel
theorem dX6_exchanges_41 : decode cX6_exchanges 41 = .ok (.iload 6, 2) := by decide +kernel
theorem dX6_exchanges_43 : decode cX6_exchanges 43 = .ok (.isub, 1) := by decide +kernel
theorem dX6_exchanges_44 : decode cX6_exchanges 44 = .ok (.invokevirtual 76, 3) := by decide +kernel
theorem dX6_exchanges_47 : decode cX6_exchanges 47 = .ok (.aload_n 0, 1) := by decide +kernel
theorem dX6_exchanges_48 : decode cX6_exchanges 48 = .ok (.getfield 7, 3) := by decide +kernel
theorem dX6_exchanges_51 : decode cX6_exchanges 51 = .ok (.bipush 12, 2) := by decide +kernel
theorem dX6_exchanges_53 : decode cX6_exchanges 53 = .ok (.dup2, 1) := by decide +kernel
theorem dX6_exchanges_54 : decode cX6_exchanges 54 = .ok (.iaload, 1) := by decide +kernel
theorem dX6_exchanges_55 : decode cX6_exchanges 55 = .ok (.iconst 1, 1) := by decide +kernel
theorem dX6_exchanges_56 : decode cX6_exchanges 56 = .ok (.iadd, 1) := by decide +kernel
theorem dX6_exchanges_57 : decode cX6_exchanges 57 = .ok (.iastore, 1) := by decide +kernel
theorem dX6_exchanges_58 : decode cX6_exchanges 58 = .ok (.aload_n 0, 1) := by decide +kernel
theorem dX6_exchanges_59 : decode cX6_exchanges 59 = .ok (.getfield 7, 3) := by decide +kernel
theorem dX6_exchanges_62 : decode cX6_exchanges 62 = .ok (.iload_n 3, 1) := by decide +kernel
theorem dX6_exchanges_63 : decode cX6_exchanges 63 = .ok (.ifCond .ne 8, 3) := by decide +kernel
theorem dX6_exchanges_66 : decode cX6_exchanges 66 = .ok (.bipush 13, 2) := by decide +kernel
theorem dX6_exchanges_68 : decode cX6_exchanges 68 = .ok (.goto 5, 3) := by decide +kernel
theorem dX6_exchanges_71 : decode cX6_exchanges 71 = .ok (.bipush 14, 2) := by decide +kernel
theorem dX6_exchanges_73 : decode cX6_exchanges 73 = .ok (.dup2, 1) := by decide +kernel
theorem dX6_exchanges_74 : decode cX6_exchanges 74 = .ok (.iaload, 1) := by decide +kernel
theorem dX6_exchanges_75 : decode cX6_exchanges 75 = .ok (.iload 6, 2) := by decide +kernel
theorem dX6_exchanges_77 : decode cX6_exchanges 77 = .ok (.iadd, 1) := by decide +kernel
theorem dX6_exchanges_78 : decode cX6_exchanges 78 = .ok (.iastore, 1) := by decide +kernel
theorem dX6_exchanges_79 : decode cX6_exchanges 79 = .ok (.iload 5, 2) := by decide +kernel
theorem dX6_exchanges_81 : decode cX6_exchanges 81 = .ok (.iload 6, 2) := by decide +kernel
theorem dX6_exchanges_83 : decode cX6_exchanges 83 = .ok (.isub, 1) := by decide +kernel
theorem dX6_exchanges_84 : decode cX6_exchanges 84 = .ok (.ireturn, 1) := by decide +kernel
theorem dX6_exchange_0 : decode cX6_exchange 0 = .ok (.aload_n 0, 1) := by decide +kernel
theorem dX6_exchange_1 : decode cX6_exchange 1 = .ok (.iload_n 1, 1) := by decide +kernel
theorem dX6_exchange_2 : decode cX6_exchange 2 = .ok (.iload_n 2, 1) := by decide +kernel
theorem dX6_exchange_3 : decode cX6_exchange 3 = .ok (.invokestatic 40, 3) := by decide +kernel
theorem dX6_exchange_6 : decode cX6_exchange 6 = .ok (.ifCond .eq 10, 3) := by decide +kernel
theorem dX6_exchange_9 : decode cX6_exchange 9 = .ok (.iload_n 3, 1) := by decide +kernel
theorem dX6_exchange_10 : decode cX6_exchange 10 = .ok (.invokestatic 37, 3) := by decide +kernel
theorem dX6_exchange_13 : decode cX6_exchange 13 = .ok (.ifCond .ne 7, 3) := by decide +kernel
theorem dX6_exchange_16 : decode cX6_exchange 16 = .ok (.iconst 1, 1) := by decide +kernel
theorem dX6_exchange_17 : decode cX6_exchange 17 = .ok (.goto 32, 3) := by decide +kernel
theorem dX6_exchange_20 : decode cX6_exchange 20 = .ok (.iload 4, 2) := by decide +kernel
theorem dX6_exchange_22 : decode cX6_exchange 22 = .ok (.invokestatic 62, 3) := by decide +kernel
theorem dX6_exchange_25 : decode cX6_exchange 25 = .ok (.ifCond .ne 7, 3) := by decide +kernel
theorem dX6_exchange_28 : decode cX6_exchange 28 = .ok (.iconst 2, 1) := by decide +kernel
theorem dX6_exchange_29 : decode cX6_exchange 29 = .ok (.goto 20, 3) := by decide +kernel
theorem dX6_exchange_32 : decode cX6_exchange 32 = .ok (.aload_n 0, 1) := by decide +kernel
theorem dX6_exchange_33 : decode cX6_exchange 33 = .ok (.iload_n 1, 1) := by decide +kernel
theorem dX6_exchange_34 : decode cX6_exchange 34 = .ok (.iload_n 2, 1) := by decide +kernel
theorem dX6_exchange_35 : decode cX6_exchange 35 = .ok (.iload_n 3, 1) := by decide +kernel
theorem dX6_exchange_36 : decode cX6_exchange 36 = .ok (.iload 4, 2) := by decide +kernel
theorem dX6_exchange_38 : decode cX6_exchange 38 = .ok (.invokevirtual 105, 3) := by decide +kernel
theorem dX6_exchange_41 : decode cX6_exchange 41 = .ok (.ifCond .ne 7, 3) := by decide +kernel
theorem dX6_exchange_44 : decode cX6_exchange 44 = .ok (.iconst 0, 1) := by decide +kernel
theorem dX6_exchange_45 : decode cX6_exchange 45 = .ok (.goto 4, 3) := by decide +kernel
theorem dX6_exchange_48 : decode cX6_exchange 48 = .ok (.iconst 3, 1) := by decide +kernel
theorem dX6_exchange_49 : decode cX6_exchange 49 = .ok (.putfield 22, 3) := by decide +kernel
theorem dX6_exchange_52 : decode cX6_exchange 52 = .ok (.aload_n 0, 1) := by decide +kernel
theorem dX6_exchange_53 : decode cX6_exchange 53 = .ok (.getfield 22, 3) := by decide +kernel
theorem dX6_exchange_56 : decode cX6_exchange 56 = .ok (.ifCond .le 5, 3) := by decide +kernel
theorem dX6_exchange_59 : decode cX6_exchange 59 = .ok (.iconst 0, 1) := by decide +kernel
theorem dX6_exchange_60 : decode cX6_exchange 60 = .ok (.ireturn, 1) := by decide +kernel
theorem dX6_exchange_61 : decode cX6_exchange 61 = .ok (.aload_n 0, 1) := by decide +kernel
theorem dX6_exchange_62 : decode cX6_exchange 62 = .ok (.invokevirtual 68, 3) := by decide +kernel
theorem dX6_exchange_65 : decode cX6_exchange 65 = .ok (.aload_n 0, 1) := by decide +kernel
theorem dX6_exchange_66 : decode cX6_exchange 66 = .ok (.iload_n 1, 1) := by decide +kernel
theorem dX6_exchange_67 : decode cX6_exchange 67 = .ok (.iload_n 2, 1) := by decide +kernel
theorem dX6_exchange_68 : decode cX6_exchange 68 = .ok (.iload_n 3, 1) := by decide +kernel
theorem dX6_exchange_69 : decode cX6_exchange 69 = .ok (.iload 4, 2) := by decide +kernel
theorem dX6_exchange_71 : decode cX6_exchange 71 = .ok (.invokevirtual 108, 3) := by decide +kernel
theorem dX6_exchange_74 : decode cX6_exchange 74 = .ok (.ireturn, 1) := by decide +kernel
theorem dX6_withTip_0 : decode cX6_withTip 0 = .ok (.iload_n 1, 1) := by decide +kernel
theorem dX6_withTip_1 : decode cX6_withTip 1 = .ok (.iload_n 1, 1) := by decide +kernel
theorem dX6_withTip_2 : decode cX6_withTip 2 = .ok (.aload_n 0, 1) := by decide +kernel
theorem dX6_withTip_3 : decode cX6_withTip 3 = .ok (.getfield 7, 3) := by decide +kernel
theorem dX6_withTip_6 : decode cX6_withTip 6 = .ok (.iconst 2, 1) := by decide +kernel
theorem dX6_withTip_7 : decode cX6_withTip 7 = .ok (.iaload, 1) := by decide +kernel
theorem dX6_withTip_8 : decode cX6_withTip 8 = .ok (.imul, 1) := by decide +kernel
theorem dX6_withTip_9 : decode cX6_withTip 9 = .ok (.bipush 100, 2) := by decide +kernel
theorem dX6_withTip_11 : decode cX6_withTip 11 = .ok (.idiv, 1) := by decide +kernel
theorem dX6_withTip_12 : decode cX6_withTip 12 = .ok (.iadd, 1) := by decide +kernel
theorem dX6_withTip_13 : decode cX6_withTip 13 = .ok (.ireturn, 1) := by decide +kernel
theorem dX6_whyNoHold_0 : decode cX6_whyNoHold 0 = .ok (.aload_n 0, 1) := by decide +kernel
theorem dX6_whyNoHold_1 : decode cX6_whyNoHold 1 = .ok (.iload_n 1, 1) := by decide +kernel
theorem dX6_whyNoHold_2 : decode cX6_whyNoHold 2 = .ok (.iload_n 2, 1) := by decide +kernel
theorem dX6_whyNoHold_3 : decode cX6_whyNoHold 3 = .ok (.invokevirtual 102, 3) := by decide +kernel
theorem dX6_whyNoHold_6 : decode cX6_whyNoHold 6 = .ok (.aload_n 0, 1) := by decide +kernel
theorem dX6_whyNoHold_7 : decode cX6_whyNoHold 7 = .ok (.iload_n 3, 1) := by decide +kernel
theorem dX6_whyNoHold_8 : decode cX6_whyNoHold 8 = .ok (.invokevirtual 111, 3) := by decide +kernel
theorem dX6_whyNoHold_11 : decode cX6_whyNoHold 11 = .ok (.if_icmp .ge 7, 3) := by decide +kernel
theorem dX6_whyNoHold_14 : decode cX6_whyNoHold 14 = .ok (.iconst 2, 1) := by decide +kernel
theorem dX6_whyNoHold_15 : decode cX6_whyNoHold 15 = .ok (.goto 20, 3) := by decide +kernel
theorem dX6_whyNoHold_18 : decode cX6_whyNoHold 18 = .ok (.aload_n 0, 1) := by decide +kernel
theorem dX6_whyNoHold_19 : decode cX6_whyNoHold 19 = .ok (.getfield 7, 3) := by decide +kernel
theorem dX6_whyNoHold_22 : decode cX6_whyNoHold 22 = .ok (.bipush 8, 2) := by decide +kernel
theorem dX6_whyNoHold_24 : decode cX6_whyNoHold 24 = .ok (.iaload, 1) := by decide +kernel
theorem dX6_whyNoHold_25 : decode cX6_whyNoHold 25 = .ok (.bipush 8, 2) := by decide +kernel
theorem dX6_whyNoHold_27 : decode cX6_whyNoHold 27 = .ok (.if_icmp .ne 7, 3) := by decide +kernel
theorem dX6_whyNoHold_30 : decode cX6_whyNoHold 30 = .ok (.iconst 3, 1) := by decide +kernel
theorem dX6_whyNoHold_31 : decode cX6_whyNoHold 31 = .ok (.goto 4, 3) := by decide +kernel
theorem dX6_whyNoHold_34 : decode cX6_whyNoHold 34 = .ok (.iconst 0, 1) := by decide +kernel
theorem dX6_whyNoHold_35 : decode cX6_whyNoHold 35 = .ok (.ireturn, 1) := by decide +kernel
theorem dX6_holds_0 : decode cX6_holds 0 = .ok (.bipush 96, 2) := by decide +kernel
theorem dX6_holds_2 : decode cX6_holds 2 = .ok (.iconst 5, 1) := by decide +kernel
theorem dX6_holds_3 : decode cX6_holds 3 = .ok (.aload_n 0, 1) := by decide +kernel
theorem dX6_holds_4 : decode cX6_holds 4 = .ok (.getfield 7, 3) := by decide +kernel
theorem dX6_holds_7 : decode cX6_holds 7 = .ok (.bipush 8, 2) := by decide +kernel
theorem dX6_holds_9 : decode cX6_holds 9 = .ok (.iaload, 1) := by decide +kernel
theorem dX6_holds_10 : decode cX6_holds 10 = .ok (.imul, 1) := by decide +kernel
theorem dX6_holds_11 : decode cX6_holds 11 = .ok (.iadd, 1) := by decide +kernel
theorem dX6_holds_12 : decode cX6_holds 12 = .ok (.istore 4, 2) := by decide +kernel
theorem dX6_holds_14 : decode cX6_holds 14 = .ok (.aload_n 0, 1) := by decide +kernel
theorem dX6_holds_15 : decode cX6_holds 15 = .ok (.getfield 7, 3) := by decide +kernel
theorem dX6_holds_18 : decode cX6_holds 18 = .ok (.bipush 8, 2) := by decide +kernel
theorem dX6_holds_20 : decode cX6_holds 20 = .ok (.dup2, 1) := by decide +kernel
theorem dX6_holds_21 : decode cX6_holds 21 = .ok (.iaload, 1) := by decide +kernel
theorem dX6_holds_22 : decode cX6_holds 22 = .ok (.iconst 1, 1) := by decide +kernel
theorem dX6_holds_23 : decode cX6_holds 23 = .ok (.iadd, 1) := by decide +kernel
theorem dX6_holds_24 : decode cX6_holds 24 = .ok (.iastore, 1) := by decide +kernel
theorem dX6_holds_25 : decode cX6_holds 25 = .ok (.aload_n 0, 1) := by decide +kernel
theorem dX6_holds_26 : decode cX6_holds 26 = .ok (.getfield 7, 3) := by decide +kernel
theorem dX6_holds_29 : decode cX6_holds 29 = .ok (.iload 4, 2) := by decide +kernel
theorem dX6_holds_31 : decode cX6_holds 31 = .ok (.iconst 0, 1) := by decide +kernel
theorem dX6_holds_32 : decode cX6_holds 32 = .ok (.iadd, 1) := by decide +kernel
theorem dX6_holds_33 : decode cX6_holds 33 = .ok (.iload_n 1, 1) := by decide +kernel
theorem dX6_holds_34 : decode cX6_holds 34 = .ok (.iastore, 1) := by decide +kernel
theorem dX6_holds_35 : decode cX6_holds 35 = .ok (.aload_n 0, 1) := by decide +kernel
theorem dX6_holds_36 : decode cX6_holds 36 = .ok (.getfield 7, 3) := by decide +kernel
theorem dX6_holds_39 : decode cX6_holds 39 = .ok (.iload 4, 2) := by decide +kernel
theorem dX6_holds_41 : decode cX6_holds 41 = .ok (.iconst 1, 1) := by decide +kernel
theorem dX6_holds_42 : decode cX6_holds 42 = .ok (.iadd, 1) := by decide +kernel
theorem dX6_holds_43 : decode cX6_holds 43 = .ok (.iload_n 2, 1) := by decide +kernel
theorem dX6_holds_44 : decode cX6_holds 44 = .ok (.iastore, 1) := by decide +kernel
theorem dX6_holds_45 : decode cX6_holds 45 = .ok (.aload_n 0, 1) := by decide +kernel
theorem dX6_holds_46 : decode cX6_holds 46 = .ok (.getfield 7, 3) := by decide +kernel
theorem dX6_holds_49 : decode cX6_holds 49 = .ok (.iload 4, 2) := by decide +kernel
theorem dX6_holds_51 : decode cX6_holds 51 = .ok (.iconst 2, 1) := by decide +kernel
theorem dX6_holds_52 : decode cX6_holds 52 = .ok (.iadd, 1) := by decide +kernel
theorem dX6_holds_53 : decode cX6_holds 53 = .ok (.iload_n 3, 1) := by decide +kernel
theorem dX6_holds_54 : decode cX6_holds 54 = .ok (.iastore, 1) := by decide +kernel
theorem dX6_holds_55 : decode cX6_holds 55 = .ok (.aload_n 0, 1) := by decide +kernel
