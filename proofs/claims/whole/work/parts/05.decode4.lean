theorem dX5_ifClosed_30 : decode cX5_ifClosed 30 = .ok (.iconst 4, 1) := by decide +kernel
theorem dX5_ifClosed_31 : decode cX5_ifClosed 31 = .ok (.if_icmp .ge 36, 3) := by decide +kernel
theorem dX5_ifClosed_34 : decode cX5_ifClosed 34 = .ok (.aload_n 0, 1) := by decide +kernel
theorem dX5_ifClosed_35 : decode cX5_ifClosed 35 = .ok (.iload_n 1, 1) := by decide +kernel
theorem dX5_ifClosed_36 : decode cX5_ifClosed 36 = .ok (.iload 4, 2) := by decide +kernel
theorem dX5_ifClosed_38 : decode cX5_ifClosed 38 = .ok (.invokevirtual 31, 3) := by decide +kernel
theorem dX5_ifClosed_41 : decode cX5_ifClosed 41 = .ok (.astore 5, 2) := by decide +kernel
theorem dX5_ifClosed_43 : decode cX5_ifClosed 43 = .ok (.iload_n 3, 1) := by decide +kernel
theorem dX5_ifClosed_44 : decode cX5_ifClosed 44 = .ok (.aload_n 0, 1) := by decide +kernel
theorem dX5_ifClosed_45 : decode cX5_ifClosed 45 = .ok (.getfield 10, 3) := by decide +kernel
theorem dX5_ifClosed_48 : decode cX5_ifClosed 48 = .ok (.aload 5, 2) := by decide +kernel
theorem dX5_ifClosed_50 : decode cX5_ifClosed 50 = .ok (.aload_n 2, 1) := by decide +kernel
theorem dX5_ifClosed_51 : decode cX5_ifClosed 51 = .ok (.aload 5, 2) := by decide +kernel
theorem dX5_ifClosed_53 : decode cX5_ifClosed 53 = .ok (.getfield 57, 3) := by decide +kernel
theorem dX5_ifClosed_56 : decode cX5_ifClosed 56 = .ok (.invokevirtual 283, 3) := by decide +kernel
theorem dX5_ifClosed_59 : decode cX5_ifClosed 59 = .ok (.iadd, 1) := by decide +kernel
theorem dX5_ifClosed_60 : decode cX5_ifClosed 60 = .ok (.istore_n 3, 1) := by decide +kernel
theorem dX5_ifClosed_61 : decode cX5_ifClosed 61 = .ok (.iinc 4 1, 3) := by decide +kernel
theorem dX5_ifClosed_64 : decode cX5_ifClosed 64 = .ok (.goto (-36), 3) := by decide +kernel
theorem dX5_ifClosed_67 : decode cX5_ifClosed 67 = .ok (.iload_n 3, 1) := by decide +kernel
theorem dX5_ifClosed_68 : decode cX5_ifClosed 68 = .ok (.ireturn, 1) := by decide +kernel
theorem dX5_heldShare_0 : decode cX5_heldShare 0 = .ok (.aload_n 0, 1) := by decide +kernel
theorem dX5_heldShare_1 : decode cX5_heldShare 1 = .ok (.iload_n 1, 1) := by decide +kernel
theorem dX5_heldShare_2 : decode cX5_heldShare 2 = .ok (.iload_n 2, 1) := by decide +kernel
theorem dX5_heldShare_3 : decode cX5_heldShare 3 = .ok (.invokevirtual 31, 3) := by decide +kernel
theorem dX5_heldShare_6 : decode cX5_heldShare 6 = .ok (.astore_n 3, 1) := by decide +kernel
theorem dX5_heldShare_7 : decode cX5_heldShare 7 = .ok (.aload_n 3, 1) := by decide +kernel
theorem dX5_heldShare_8 : decode cX5_heldShare 8 = .ok (.getfield 57, 3) := by decide +kernel
theorem dX5_heldShare_11 : decode cX5_heldShare 11 = .ok (.ifCond .ne 5, 3) := by decide +kernel
theorem dX5_heldShare_14 : decode cX5_heldShare 14 = .ok (.dconst 0, 1) := by decide +kernel
theorem dX5_heldShare_15 : decode cX5_heldShare 15 = .ok (.dreturn, 1) := by decide +kernel
theorem dX5_heldShare_16 : decode cX5_heldShare 16 = .ok (.aload_n 0, 1) := by decide +kernel
theorem dX5_heldShare_17 : decode cX5_heldShare 17 = .ok (.getfield 10, 3) := by decide +kernel
theorem dX5_heldShare_20 : decode cX5_heldShare 20 = .ok (.aload_n 3, 1) := by decide +kernel
theorem dX5_heldShare_21 : decode cX5_heldShare 21 = .ok (.invokevirtual 226, 3) := by decide +kernel
theorem dX5_heldShare_24 : decode cX5_heldShare 24 = .ok (.i2d, 1) := by decide +kernel
theorem dX5_heldShare_25 : decode cX5_heldShare 25 = .ok (.aload_n 3, 1) := by decide +kernel
theorem dX5_heldShare_26 : decode cX5_heldShare 26 = .ok (.getfield 57, 3) := by decide +kernel
theorem dX5_heldShare_29 : decode cX5_heldShare 29 = .ok (.i2d, 1) := by decide +kernel
theorem dX5_heldShare_30 : decode cX5_heldShare 30 = .ok (.ddiv, 1) := by decide +kernel
theorem dX5_heldShare_31 : decode cX5_heldShare 31 = .ok (.dreturn, 1) := by decide +kernel
theorem dX5_digest_0 : decode cX5_digest 0 = .ok (.ldc2_w 295, 3) := by decide +kernel
theorem dX5_digest_3 : decode cX5_digest 3 = .ok (.lstore_n 1, 1) := by decide +kernel
theorem dX5_digest_4 : decode cX5_digest 4 = .ok (.iconst 0, 1) := by decide +kernel
theorem dX5_digest_5 : decode cX5_digest 5 = .ok (.istore_n 3, 1) := by decide +kernel
theorem dX5_digest_6 : decode cX5_digest 6 = .ok (.iload_n 3, 1) := by decide +kernel
theorem dX5_digest_7 : decode cX5_digest 7 = .ok (.bipush 14, 2) := by decide +kernel
theorem dX5_digest_9 : decode cX5_digest 9 = .ok (.if_icmp .ge 20, 3) := by decide +kernel
theorem dX5_digest_12 : decode cX5_digest 12 = .ok (.lload_n 1, 1) := by decide +kernel
theorem dX5_digest_13 : decode cX5_digest 13 = .ok (.aload_n 0, 1) := by decide +kernel
theorem dX5_digest_14 : decode cX5_digest 14 = .ok (.iload_n 3, 1) := by decide +kernel
theorem dX5_digest_15 : decode cX5_digest 15 = .ok (.invokevirtual 297, 3) := by decide +kernel
theorem dX5_digest_18 : decode cX5_digest 18 = .ok (.i2l, 1) := by decide +kernel
theorem dX5_digest_19 : decode cX5_digest 19 = .ok (.invokestatic 300, 3) := by decide +kernel
theorem dX5_digest_22 : decode cX5_digest 22 = .ok (.lstore_n 1, 1) := by decide +kernel
theorem dX5_digest_23 : decode cX5_digest 23 = .ok (.iinc 3 1, 3) := by decide +kernel
theorem dX5_digest_26 : decode cX5_digest 26 = .ok (.goto (-20), 3) := by decide +kernel
theorem dX5_digest_29 : decode cX5_digest 29 = .ok (.iconst 0, 1) := by decide +kernel
theorem dX5_digest_30 : decode cX5_digest 30 = .ok (.istore_n 3, 1) := by decide +kernel
theorem dX5_digest_31 : decode cX5_digest 31 = .ok (.iload_n 3, 1) := by decide +kernel
theorem dX5_digest_32 : decode cX5_digest 32 = .ok (.iconst 4, 1) := by decide +kernel
theorem dX5_digest_33 : decode cX5_digest 33 = .ok (.if_icmp .ge 20, 3) := by decide +kernel
theorem dX5_digest_36 : decode cX5_digest 36 = .ok (.lload_n 1, 1) := by decide +kernel
theorem dX5_digest_37 : decode cX5_digest 37 = .ok (.aload_n 0, 1) := by decide +kernel
theorem dX5_digest_38 : decode cX5_digest 38 = .ok (.iload_n 3, 1) := by decide +kernel
theorem dX5_digest_39 : decode cX5_digest 39 = .ok (.invokevirtual 304, 3) := by decide +kernel
theorem dX5_digest_42 : decode cX5_digest 42 = .ok (.i2l, 1) := by decide +kernel
theorem dX5_digest_43 : decode cX5_digest 43 = .ok (.invokestatic 300, 3) := by decide +kernel
theorem dX5_digest_46 : decode cX5_digest 46 = .ok (.lstore_n 1, 1) := by decide +kernel
theorem dX5_digest_47 : decode cX5_digest 47 = .ok (.iinc 3 1, 3) := by decide +kernel
theorem dX5_digest_50 : decode cX5_digest 50 = .ok (.goto (-19), 3) := by decide +kernel
theorem dX5_digest_53 : decode cX5_digest 53 = .ok (.iconst 0, 1) := by decide +kernel
theorem dX5_digest_54 : decode cX5_digest 54 = .ok (.istore_n 3, 1) := by decide +kernel
theorem dX5_digest_55 : decode cX5_digest 55 = .ok (.iload_n 3, 1) := by decide +kernel
theorem dX5_digest_56 : decode cX5_digest 56 = .ok (.iconst 4, 1) := by decide +kernel
theorem dX5_digest_57 : decode cX5_digest 57 = .ok (.if_icmp .ge 16, 3) := by decide +kernel
theorem dX5_digest_60 : decode cX5_digest 60 = .ok (.aload_n 0, 1) := by decide +kernel
theorem dX5_digest_61 : decode cX5_digest 61 = .ok (.lload_n 1, 1) := by decide +kernel
theorem dX5_digest_62 : decode cX5_digest 62 = .ok (.iload_n 3, 1) := by decide +kernel
theorem dX5_digest_63 : decode cX5_digest 63 = .ok (.invokevirtual 307, 3) := by decide +kernel
theorem dX5_digest_66 : decode cX5_digest 66 = .ok (.lstore_n 1, 1) := by decide +kernel
theorem dX5_digest_67 : decode cX5_digest 67 = .ok (.iinc 3 1, 3) := by decide +kernel
theorem dX5_digest_70 : decode cX5_digest 70 = .ok (.goto (-15), 3) := by decide +kernel
theorem dX5_digest_73 : decode cX5_digest 73 = .ok (.aload_n 0, 1) := by decide +kernel
theorem dX5_digest_74 : decode cX5_digest 74 = .ok (.lload_n 1, 1) := by decide +kernel
theorem dX5_digest_75 : decode cX5_digest 75 = .ok (.invokevirtual 311, 3) := by decide +kernel
theorem dX5_digest_78 : decode cX5_digest 78 = .ok (.lstore_n 1, 1) := by decide +kernel
theorem dX5_digest_79 : decode cX5_digest 79 = .ok (.aload_n 0, 1) := by decide +kernel
theorem dX5_digest_80 : decode cX5_digest 80 = .ok (.lload_n 1, 1) := by decide +kernel
theorem dX5_digest_81 : decode cX5_digest 81 = .ok (.invokevirtual 315, 3) := by decide +kernel
theorem dX5_digest_84 : decode cX5_digest 84 = .ok (.lstore_n 1, 1) := by decide +kernel
theorem dX5_digest_85 : decode cX5_digest 85 = .ok (.aload_n 0, 1) := by decide +kernel
theorem dX5_digest_86 : decode cX5_digest 86 = .ok (.lload_n 1, 1) := by decide +kernel
theorem dX5_digest_87 : decode cX5_digest 87 = .ok (.invokevirtual 318, 3) := by decide +kernel
theorem dX5_digest_90 : decode cX5_digest 90 = .ok (.lreturn, 1) := by decide +kernel
theorem dX5_purseAt_0 : decode cX5_purseAt 0 = .ok (.iload_n 1, 1) := by decide +kernel
theorem dX5_purseAt_1 : decode cX5_purseAt 1 = .ok (.ifCond .lt 17, 3) := by decide +kernel
theorem dX5_purseAt_4 : decode cX5_purseAt 4 = .ok (.iload_n 1, 1) := by decide +kernel
theorem dX5_purseAt_5 : decode cX5_purseAt 5 = .ok (.iconst 4, 1) := by decide +kernel
theorem dX5_purseAt_6 : decode cX5_purseAt 6 = .ok (.if_icmp .ge 12, 3) := by decide +kernel
theorem dX5_purseAt_9 : decode cX5_purseAt 9 = .ok (.iload_n 2, 1) := by decide +kernel
theorem dX5_purseAt_10 : decode cX5_purseAt 10 = .ok (.ifCond .lt 8, 3) := by decide +kernel
theorem dX5_purseAt_13 : decode cX5_purseAt 13 = .ok (.iload_n 2, 1) := by decide +kernel
theorem dX5_purseAt_14 : decode cX5_purseAt 14 = .ok (.iconst 4, 1) := by decide +kernel
theorem dX5_purseAt_15 : decode cX5_purseAt 15 = .ok (.if_icmp .lt 14, 3) := by decide +kernel
theorem dX5_purseAt_18 : decode cX5_purseAt 18 = .ok (.new 63, 3) := by decide +kernel
theorem dX5_purseAt_21 : decode cX5_purseAt 21 = .ok (.dup, 1) := by decide +kernel
theorem dX5_purseAt_22 : decode cX5_purseAt 22 = .ok (.ldc_w 321, 3) := by decide +kernel
theorem dX5_purseAt_25 : decode cX5_purseAt 25 = .ok (.invokespecial 67, 3) := by decide +kernel
theorem dX5_purseAt_28 : decode cX5_purseAt 28 = .ok (.athrow, 1) := by decide +kernel
theorem dX5_purseAt_29 : decode cX5_purseAt 29 = .ok (.aload_n 0, 1) := by decide +kernel
theorem dX5_purseAt_30 : decode cX5_purseAt 30 = .ok (.getfield 10, 3) := by decide +kernel
theorem dX5_purseAt_33 : decode cX5_purseAt 33 = .ok (.getfield 323, 3) := by decide +kernel
theorem dX5_purseAt_36 : decode cX5_purseAt 36 = .ok (.iload_n 1, 1) := by decide +kernel
theorem dX5_purseAt_37 : decode cX5_purseAt 37 = .ok (.iconst 4, 1) := by decide +kernel
theorem dX5_purseAt_38 : decode cX5_purseAt 38 = .ok (.imul, 1) := by decide +kernel
theorem dX5_purseAt_39 : decode cX5_purseAt 39 = .ok (.iload_n 2, 1) := by decide +kernel
theorem dX5_purseAt_40 : decode cX5_purseAt 40 = .ok (.iadd, 1) := by decide +kernel
theorem dX5_purseAt_41 : decode cX5_purseAt 41 = .ok (.aaload, 1) := by decide +kernel
theorem dX5_purseAt_42 : decode cX5_purseAt 42 = .ok (.areturn, 1) := by decide +kernel
theorem dX5_foreignPurseAt_0 : decode cX5_foreignPurseAt 0 = .ok (.iload_n 2, 1) := by decide +kernel
theorem dX5_foreignPurseAt_1 : decode cX5_foreignPurseAt 1 = .ok (.ifCond .ne 14, 3) := by decide +kernel
theorem dX5_foreignPurseAt_4 : decode cX5_foreignPurseAt 4 = .ok (.new 63, 3) := by decide +kernel
theorem dX5_foreignPurseAt_7 : decode cX5_foreignPurseAt 7 = .ok (.dup, 1) := by decide +kernel
theorem dX5_foreignPurseAt_8 : decode cX5_foreignPurseAt 8 = .ok (.ldc_w 327, 3) := by decide +kernel
theorem dX5_foreignPurseAt_11 : decode cX5_foreignPurseAt 11 = .ok (.invokespecial 67, 3) := by decide +kernel
theorem dX5_foreignPurseAt_14 : decode cX5_foreignPurseAt 14 = .ok (.athrow, 1) := by decide +kernel
theorem dX5_foreignPurseAt_15 : decode cX5_foreignPurseAt 15 = .ok (.aload_n 0, 1) := by decide +kernel
theorem dX5_foreignPurseAt_16 : decode cX5_foreignPurseAt 16 = .ok (.iload_n 1, 1) := by decide +kernel
theorem dX5_foreignPurseAt_17 : decode cX5_foreignPurseAt 17 = .ok (.iload_n 2, 1) := by decide +kernel
theorem dX5_foreignPurseAt_18 : decode cX5_foreignPurseAt 18 = .ok (.invokevirtual 31, 3) := by decide +kernel
theorem dX5_foreignPurseAt_21 : decode cX5_foreignPurseAt 21 = .ok (.areturn, 1) := by decide +kernel
theorem dX5_holdAt_0 : decode cX5_holdAt 0 = .ok (.iload_n 1, 1) := by decide +kernel
theorem dX5_holdAt_1 : decode cX5_holdAt 1 = .ok (.ifCond .lt 26, 3) := by decide +kernel
theorem dX5_holdAt_4 : decode cX5_holdAt 4 = .ok (.iload_n 1, 1) := by decide +kernel
theorem dX5_holdAt_5 : decode cX5_holdAt 5 = .ok (.aload_n 0, 1) := by decide +kernel
theorem dX5_holdAt_6 : decode cX5_holdAt 6 = .ok (.getfield 10, 3) := by decide +kernel
theorem dX5_holdAt_9 : decode cX5_holdAt 9 = .ok (.getfield 253, 3) := by decide +kernel
theorem dX5_holdAt_12 : decode cX5_holdAt 12 = .ok (.if_icmp .ge 15, 3) := by decide +kernel
theorem dX5_holdAt_15 : decode cX5_holdAt 15 = .ok (.iload_n 1, 1) := by decide +kernel
theorem dX5_holdAt_16 : decode cX5_holdAt 16 = .ok (.aload_n 0, 1) := by decide +kernel
theorem dX5_holdAt_17 : decode cX5_holdAt 17 = .ok (.getfield 10, 3) := by decide +kernel
theorem dX5_holdAt_20 : decode cX5_holdAt 20 = .ok (.getfield 329, 3) := by decide +kernel
theorem dX5_holdAt_23 : decode cX5_holdAt 23 = .ok (.arraylength, 1) := by decide +kernel
theorem dX5_holdAt_24 : decode cX5_holdAt 24 = .ok (.if_icmp .lt 14, 3) := by decide +kernel
theorem dX5_holdAt_27 : decode cX5_holdAt 27 = .ok (.new 63, 3) := by decide +kernel
theorem dX5_holdAt_30 : decode cX5_holdAt 30 = .ok (.dup, 1) := by decide +kernel
theorem dX5_holdAt_31 : decode cX5_holdAt 31 = .ok (.ldc_w 333, 3) := by decide +kernel
theorem dX5_holdAt_34 : decode cX5_holdAt 34 = .ok (.invokespecial 67, 3) := by decide +kernel
theorem dX5_holdAt_37 : decode cX5_holdAt 37 = .ok (.athrow, 1) := by decide +kernel
theorem dX5_holdAt_38 : decode cX5_holdAt 38 = .ok (.aload_n 0, 1) := by decide +kernel
theorem dX5_holdAt_39 : decode cX5_holdAt 39 = .ok (.getfield 10, 3) := by decide +kernel
theorem dX5_holdAt_42 : decode cX5_holdAt 42 = .ok (.getfield 329, 3) := by decide +kernel
theorem dX5_holdAt_45 : decode cX5_holdAt 45 = .ok (.iload_n 1, 1) := by decide +kernel
theorem dX5_holdAt_46 : decode cX5_holdAt 46 = .ok (.aaload, 1) := by decide +kernel
theorem dX5_holdAt_47 : decode cX5_holdAt 47 = .ok (.areturn, 1) := by decide +kernel
theorem dX5_paymentAt_0 : decode cX5_paymentAt 0 = .ok (.iload_n 1, 1) := by decide +kernel
theorem dX5_paymentAt_1 : decode cX5_paymentAt 1 = .ok (.ifCond .lt 26, 3) := by decide +kernel
theorem dX5_paymentAt_4 : decode cX5_paymentAt 4 = .ok (.iload_n 1, 1) := by decide +kernel
theorem dX5_paymentAt_5 : decode cX5_paymentAt 5 = .ok (.aload_n 0, 1) := by decide +kernel
theorem dX5_paymentAt_6 : decode cX5_paymentAt 6 = .ok (.getfield 10, 3) := by decide +kernel
theorem dX5_paymentAt_9 : decode cX5_paymentAt 9 = .ok (.getfield 123, 3) := by decide +kernel
theorem dX5_paymentAt_12 : decode cX5_paymentAt 12 = .ok (.if_icmp .ge 15, 3) := by decide +kernel
theorem dX5_paymentAt_15 : decode cX5_paymentAt 15 = .ok (.iload_n 1, 1) := by decide +kernel
theorem dX5_paymentAt_16 : decode cX5_paymentAt 16 = .ok (.aload_n 0, 1) := by decide +kernel
theorem dX5_paymentAt_17 : decode cX5_paymentAt 17 = .ok (.getfield 10, 3) := by decide +kernel
theorem dX5_paymentAt_20 : decode cX5_paymentAt 20 = .ok (.getfield 335, 3) := by decide +kernel
theorem dX5_paymentAt_23 : decode cX5_paymentAt 23 = .ok (.arraylength, 1) := by decide +kernel
theorem dX5_paymentAt_24 : decode cX5_paymentAt 24 = .ok (.if_icmp .lt 14, 3) := by decide +kernel
theorem dX5_paymentAt_27 : decode cX5_paymentAt 27 = .ok (.new 63, 3) := by decide +kernel
theorem dX5_paymentAt_30 : decode cX5_paymentAt 30 = .ok (.dup, 1) := by decide +kernel
theorem dX5_paymentAt_31 : decode cX5_paymentAt 31 = .ok (.ldc_w 339, 3) := by decide +kernel
theorem dX5_paymentAt_34 : decode cX5_paymentAt 34 = .ok (.invokespecial 67, 3) := by decide +kernel
theorem dX5_paymentAt_37 : decode cX5_paymentAt 37 = .ok (.athrow, 1) := by decide +kernel
theorem dX5_paymentAt_38 : decode cX5_paymentAt 38 = .ok (.aload_n 0, 1) := by decide +kernel
theorem dX5_paymentAt_39 : decode cX5_paymentAt 39 = .ok (.getfield 10, 3) := by decide +kernel
theorem dX5_paymentAt_42 : decode cX5_paymentAt 42 = .ok (.getfield 335, 3) := by decide +kernel
theorem dX5_paymentAt_45 : decode cX5_paymentAt 45 = .ok (.iload_n 1, 1) := by decide +kernel
theorem dX5_paymentAt_46 : decode cX5_paymentAt 46 = .ok (.aaload, 1) := by decide +kernel
theorem dX5_paymentAt_47 : decode cX5_paymentAt 47 = .ok (.areturn, 1) := by decide +kernel
theorem dX5_requireAmount_0 : decode cX5_requireAmount 0 = .ok (.iload_n 1, 1) := by decide +kernel
theorem dX5_requireAmount_1 : decode cX5_requireAmount 1 = .ok (.iconst 1, 1) := by decide +kernel
theorem dX5_requireAmount_2 : decode cX5_requireAmount 2 = .ok (.if_icmp .lt 10, 3) := by decide +kernel
theorem dX5_requireAmount_5 : decode cX5_requireAmount 5 = .ok (.iload_n 1, 1) := by decide +kernel
theorem dX5_requireAmount_6 : decode cX5_requireAmount 6 = .ok (.ldc_w 289, 3) := by decide +kernel
theorem dX5_requireAmount_9 : decode cX5_requireAmount 9 = .ok (.if_icmp .le 14, 3) := by decide +kernel
theorem dX5_requireAmount_12 : decode cX5_requireAmount 12 = .ok (.new 68, 3) := by decide +kernel
theorem dX5_requireAmount_15 : decode cX5_requireAmount 15 = .ok (.dup, 1) := by decide +kernel
theorem dX5_requireAmount_16 : decode cX5_requireAmount 16 = .ok (.ldc_w 286, 3) := by decide +kernel
theorem dX5_requireAmount_19 : decode cX5_requireAmount 19 = .ok (.invokespecial 72, 3) := by decide +kernel
theorem dX5_requireAmount_22 : decode cX5_requireAmount 22 = .ok (.athrow, 1) := by decide +kernel
theorem dX5_requireAmount_23 : decode cX5_requireAmount 23 = .ok (.return_, 1) := by decide +kernel
theorem dX5_saveState_0 : decode cX5_saveState 0 = .ok (.aload_n 0, 1) := by decide +kernel
theorem dX5_saveState_1 : decode cX5_saveState 1 = .ok (.getfield 217, 3) := by decide +kernel
theorem dX5_saveState_4 : decode cX5_saveState 4 = .ok (.aload_n 0, 1) := by decide +kernel
theorem dX5_saveState_5 : decode cX5_saveState 5 = .ok (.getfield 16, 3) := by decide +kernel
theorem dX5_saveState_8 : decode cX5_saveState 8 = .ok (.arraylength, 1) := by decide +kernel
theorem dX5_saveState_9 : decode cX5_saveState 9 = .ok (.if_icmp .lt 7, 3) := by decide +kernel
theorem dX5_saveState_12 : decode cX5_saveState 12 = .ok (.aload_n 0, 1) := by decide +kernel
theorem dX5_saveState_13 : decode cX5_saveState 13 = .ok (.invokevirtual 341, 3) := by decide +kernel
theorem dX5_saveState_16 : decode cX5_saveState 16 = .ok (.aload_n 0, 1) := by decide +kernel
theorem dX5_saveState_17 : decode cX5_saveState 17 = .ok (.getfield 16, 3) := by decide +kernel
theorem dX5_saveState_20 : decode cX5_saveState 20 = .ok (.aload_n 0, 1) := by decide +kernel
theorem dX5_saveState_21 : decode cX5_saveState 21 = .ok (.getfield 217, 3) := by decide +kernel
theorem dX5_saveState_24 : decode cX5_saveState 24 = .ok (.aaload, 1) := by decide +kernel
theorem dX5_saveState_25 : decode cX5_saveState 25 = .ok (.aload_n 0, 1) := by decide +kernel
theorem dX5_saveState_26 : decode cX5_saveState 26 = .ok (.getfield 10, 3) := by decide +kernel
theorem dX5_saveState_29 : decode cX5_saveState 29 = .ok (.invokevirtual 222, 3) := by decide +kernel
theorem dX5_saveState_32 : decode cX5_saveState 32 = .ok (.aload_n 0, 1) := by decide +kernel
theorem dX5_saveState_33 : decode cX5_saveState 33 = .ok (.dup, 1) := by decide +kernel
theorem dX5_saveState_34 : decode cX5_saveState 34 = .ok (.getfield 217, 3) := by decide +kernel
theorem dX5_saveState_37 : decode cX5_saveState 37 = .ok (.iconst 1, 1) := by decide +kernel
theorem dX5_saveState_38 : decode cX5_saveState 38 = .ok (.iadd, 1) := by decide +kernel
theorem dX5_saveState_39 : decode cX5_saveState 39 = .ok (.putfield 217, 3) := by decide +kernel
theorem dX5_saveState_42 : decode cX5_saveState 42 = .ok (.return_, 1) := by decide +kernel
theorem dX5_dropOldestState_0 : decode cX5_dropOldestState 0 = .ok (.aload_n 0, 1) := by decide +kernel
theorem dX5_dropOldestState_1 : decode cX5_dropOldestState 1 = .ok (.getfield 16, 3) := by decide +kernel
theorem dX5_dropOldestState_4 : decode cX5_dropOldestState 4 = .ok (.iconst 0, 1) := by decide +kernel
theorem dX5_dropOldestState_5 : decode cX5_dropOldestState 5 = .ok (.aaload, 1) := by decide +kernel
theorem dX5_dropOldestState_6 : decode cX5_dropOldestState 6 = .ok (.astore_n 1, 1) := by decide +kernel
theorem dX5_dropOldestState_7 : decode cX5_dropOldestState 7 = .ok (.iconst 1, 1) := by decide +kernel
theorem dX5_dropOldestState_8 : decode cX5_dropOldestState 8 = .ok (.istore_n 2, 1) := by decide +kernel
theorem dX5_dropOldestState_9 : decode cX5_dropOldestState 9 = .ok (.iload_n 2, 1) := by decide +kernel
theorem dX5_dropOldestState_10 : decode cX5_dropOldestState 10 = .ok (.aload_n 0, 1) := by decide +kernel
theorem dX5_dropOldestState_11 : decode cX5_dropOldestState 11 = .ok (.getfield 16, 3) := by decide +kernel
theorem dX5_dropOldestState_14 : decode cX5_dropOldestState 14 = .ok (.arraylength, 1) := by decide +kernel
theorem dX5_dropOldestState_15 : decode cX5_dropOldestState 15 = .ok (.if_icmp .ge 23, 3) := by decide +kernel
theorem dX5_dropOldestState_18 : decode cX5_dropOldestState 18 = .ok (.aload_n 0, 1) := by decide +kernel
theorem dX5_dropOldestState_19 : decode cX5_dropOldestState 19 = .ok (.getfield 16, 3) := by decide +kernel
theorem dX5_dropOldestState_22 : decode cX5_dropOldestState 22 = .ok (.iload_n 2, 1) := by decide +kernel
theorem dX5_dropOldestState_23 : decode cX5_dropOldestState 23 = .ok (.iconst 1, 1) := by decide +kernel
theorem dX5_dropOldestState_24 : decode cX5_dropOldestState 24 = .ok (.isub, 1) := by decide +kernel
theorem dX5_dropOldestState_25 : decode cX5_dropOldestState 25 = .ok (.aload_n 0, 1) := by decide +kernel
theorem dX5_dropOldestState_26 : decode cX5_dropOldestState 26 = .ok (.getfield 16, 3) := by decide +kernel
theorem dX5_dropOldestState_29 : decode cX5_dropOldestState 29 = .ok (.iload_n 2, 1) := by decide +kernel
theorem dX5_dropOldestState_30 : decode cX5_dropOldestState 30 = .ok (.aaload, 1) := by decide +kernel
theorem dX5_dropOldestState_31 : decode cX5_dropOldestState 31 = .ok (.aastore, 1) := by decide +kernel
theorem dX5_dropOldestState_32 : decode cX5_dropOldestState 32 = .ok (.iinc 2 1, 3) := by decide +kernel
theorem dX5_dropOldestState_35 : decode cX5_dropOldestState 35 = .ok (.goto (-26), 3) := by decide +kernel
theorem dX5_dropOldestState_38 : decode cX5_dropOldestState 38 = .ok (.aload_n 0, 1) := by decide +kernel
theorem dX5_dropOldestState_39 : decode cX5_dropOldestState 39 = .ok (.getfield 16, 3) := by decide +kernel
theorem dX5_dropOldestState_42 : decode cX5_dropOldestState 42 = .ok (.aload_n 0, 1) := by decide +kernel
theorem dX5_dropOldestState_43 : decode cX5_dropOldestState 43 = .ok (.getfield 16, 3) := by decide +kernel
theorem dX5_dropOldestState_46 : decode cX5_dropOldestState 46 = .ok (.arraylength, 1) := by decide +kernel
theorem dX5_dropOldestState_47 : decode cX5_dropOldestState 47 = .ok (.iconst 1, 1) := by decide +kernel
theorem dX5_dropOldestState_48 : decode cX5_dropOldestState 48 = .ok (.isub, 1) := by decide +kernel
theorem dX5_dropOldestState_49 : decode cX5_dropOldestState 49 = .ok (.aload_n 1, 1) := by decide +kernel
theorem dX5_dropOldestState_50 : decode cX5_dropOldestState 50 = .ok (.aastore, 1) := by decide +kernel
theorem dX5_dropOldestState_51 : decode cX5_dropOldestState 51 = .ok (.aload_n 0, 1) := by decide +kernel
theorem dX5_dropOldestState_52 : decode cX5_dropOldestState 52 = .ok (.aload_n 0, 1) := by decide +kernel
theorem dX5_dropOldestState_53 : decode cX5_dropOldestState 53 = .ok (.getfield 16, 3) := by decide +kernel
theorem dX5_dropOldestState_56 : decode cX5_dropOldestState 56 = .ok (.arraylength, 1) := by decide +kernel
theorem dX5_dropOldestState_57 : decode cX5_dropOldestState 57 = .ok (.iconst 1, 1) := by decide +kernel
theorem dX5_dropOldestState_58 : decode cX5_dropOldestState 58 = .ok (.isub, 1) := by decide +kernel
theorem dX5_dropOldestState_59 : decode cX5_dropOldestState 59 = .ok (.putfield 217, 3) := by decide +kernel
theorem dX5_dropOldestState_62 : decode cX5_dropOldestState 62 = .ok (.return_, 1) := by decide +kernel
theorem dX5_carryOutRow_0 : decode cX5_carryOutRow 0 = .ok (.iconst 0, 1) := by decide +kernel
theorem dX5_carryOutRow_1 : decode cX5_carryOutRow 1 = .ok (.istore_n 1, 1) := by decide +kernel
theorem dX5_carryOutRow_2 : decode cX5_carryOutRow 2 = .ok (.aload_n 0, 1) := by decide +kernel
theorem dX5_carryOutRow_3 : decode cX5_carryOutRow 3 = .ok (.getfield 27, 3) := by decide +kernel
theorem dX5_carryOutRow_6 : decode cX5_carryOutRow 6 = .ok (.invokevirtual 198, 3) := by decide +kernel
theorem dX5_carryOutRow_9 : decode cX5_carryOutRow 9 = .ok (.iconst 0, 1) := by decide +kernel
theorem dX5_carryOutRow_10 : decode cX5_carryOutRow 10 = .ok (.istore_n 2, 1) := by decide +kernel
theorem dX5_carryOutRow_11 : decode cX5_carryOutRow 11 = .ok (.iload_n 2, 1) := by decide +kernel
theorem dX5_carryOutRow_12 : decode cX5_carryOutRow 12 = .ok (.aload_n 0, 1) := by decide +kernel
theorem dX5_carryOutRow_13 : decode cX5_carryOutRow 13 = .ok (.getfield 193, 3) := by decide +kernel
theorem dX5_carryOutRow_16 : decode cX5_carryOutRow 16 = .ok (.if_icmp .ge 46, 3) := by decide +kernel
theorem dX5_carryOutRow_19 : decode cX5_carryOutRow 19 = .ok (.aload_n 0, 1) := by decide +kernel
theorem dX5_carryOutRow_20 : decode cX5_carryOutRow 20 = .ok (.getfield 20, 3) := by decide +kernel
theorem dX5_carryOutRow_23 : decode cX5_carryOutRow 23 = .ok (.iload_n 2, 1) := by decide +kernel
theorem dX5_carryOutRow_24 : decode cX5_carryOutRow 24 = .ok (.iaload, 1) := by decide +kernel
theorem dX5_carryOutRow_25 : decode cX5_carryOutRow 25 = .ok (.bipush 59, 2) := by decide +kernel
theorem dX5_carryOutRow_27 : decode cX5_carryOutRow 27 = .ok (.if_icmp .ne 15, 3) := by decide +kernel
theorem dX5_carryOutRow_30 : decode cX5_carryOutRow 30 = .ok (.aload_n 0, 1) := by decide +kernel
theorem dX5_carryOutRow_31 : decode cX5_carryOutRow 31 = .ok (.invokevirtual 344, 3) := by decide +kernel
theorem dX5_carryOutRow_34 : decode cX5_carryOutRow 34 = .ok (.ifCond .ne 5, 3) := by decide +kernel
theorem dX5_carryOutRow_37 : decode cX5_carryOutRow 37 = .ok (.iload_n 1, 1) := by decide +kernel
theorem dX5_carryOutRow_38 : decode cX5_carryOutRow 38 = .ok (.ireturn, 1) := by decide +kernel
theorem dX5_carryOutRow_39 : decode cX5_carryOutRow 39 = .ok (.iinc 1 1, 3) := by decide +kernel
theorem dX5_carryOutRow_42 : decode cX5_carryOutRow 42 = .ok (.aload_n 0, 1) := by decide +kernel
theorem dX5_carryOutRow_43 : decode cX5_carryOutRow 43 = .ok (.getfield 27, 3) := by decide +kernel
theorem dX5_carryOutRow_46 : decode cX5_carryOutRow 46 = .ok (.aload_n 0, 1) := by decide +kernel
theorem dX5_carryOutRow_47 : decode cX5_carryOutRow 47 = .ok (.getfield 20, 3) := by decide +kernel
theorem dX5_carryOutRow_50 : decode cX5_carryOutRow 50 = .ok (.iload_n 2, 1) := by decide +kernel
theorem dX5_carryOutRow_51 : decode cX5_carryOutRow 51 = .ok (.iaload, 1) := by decide +kernel
theorem dX5_carryOutRow_52 : decode cX5_carryOutRow 52 = .ok (.invokevirtual 201, 3) := by decide +kernel
theorem dX5_carryOutRow_55 : decode cX5_carryOutRow 55 = .ok (.pop, 1) := by decide +kernel
theorem dX5_carryOutRow_56 : decode cX5_carryOutRow 56 = .ok (.iinc 2 1, 3) := by decide +kernel
theorem dX5_carryOutRow_59 : decode cX5_carryOutRow 59 = .ok (.goto (-48), 3) := by decide +kernel
theorem dX5_carryOutRow_62 : decode cX5_carryOutRow 62 = .ok (.aload_n 0, 1) := by decide +kernel
theorem dX5_carryOutRow_63 : decode cX5_carryOutRow 63 = .ok (.invokevirtual 344, 3) := by decide +kernel
theorem dX5_carryOutRow_66 : decode cX5_carryOutRow 66 = .ok (.ifCond .eq 9, 3) := by decide +kernel
theorem dX5_carryOutRow_69 : decode cX5_carryOutRow 69 = .ok (.iload_n 1, 1) := by decide +kernel
theorem dX5_carryOutRow_70 : decode cX5_carryOutRow 70 = .ok (.iconst 1, 1) := by decide +kernel
theorem dX5_carryOutRow_71 : decode cX5_carryOutRow 71 = .ok (.iadd, 1) := by decide +kernel
theorem dX5_carryOutRow_72 : decode cX5_carryOutRow 72 = .ok (.goto 4, 3) := by decide +kernel
theorem dX5_carryOutRow_75 : decode cX5_carryOutRow 75 = .ok (.iload_n 1, 1) := by decide +kernel
theorem dX5_carryOutRow_76 : decode cX5_carryOutRow 76 = .ok (.ireturn, 1) := by decide +kernel
theorem dX5_carriesOutOrder_0 : decode cX5_carriesOutOrder 0 = .ok (.aload_n 0, 1) := by decide +kernel
theorem dX5_carriesOutOrder_1 : decode cX5_carriesOutOrder 1 = .ok (.aload_n 0, 1) := by decide +kernel
theorem dX5_carriesOutOrder_2 : decode cX5_carriesOutOrder 2 = .ok (.getfield 27, 3) := by decide +kernel
theorem dX5_carriesOutOrder_5 : decode cX5_carriesOutOrder 5 = .ok (.getfield 347, 3) := by decide +kernel
theorem dX5_carriesOutOrder_8 : decode cX5_carriesOutOrder 8 = .ok (.aload_n 0, 1) := by decide +kernel
theorem dX5_carriesOutOrder_9 : decode cX5_carriesOutOrder 9 = .ok (.getfield 27, 3) := by decide +kernel
theorem dX5_carriesOutOrder_12 : decode cX5_carriesOutOrder 12 = .ok (.getfield 348, 3) := by decide +kernel
theorem dX5_carriesOutOrder_15 : decode cX5_carriesOutOrder 15 = .ok (.invokevirtual 31, 3) := by decide +kernel
theorem dX5_carriesOutOrder_18 : decode cX5_carriesOutOrder 18 = .ok (.astore_n 1, 1) := by decide +kernel
theorem dX5_carriesOutOrder_19 : decode cX5_carriesOutOrder 19 = .ok (.aload_n 0, 1) := by decide +kernel
theorem dX5_carriesOutOrder_20 : decode cX5_carriesOutOrder 20 = .ok (.getfield 27, 3) := by decide +kernel
theorem dX5_carriesOutOrder_23 : decode cX5_carriesOutOrder 23 = .ok (.getfield 351, 3) := by decide +kernel
theorem dX5_carriesOutOrder_26 : decode cX5_carriesOutOrder 26 = .ok (.istore_n 2, 1) := by decide +kernel
theorem dX5_carriesOutOrder_27 : decode cX5_carriesOutOrder 27 = .ok (.aload_n 0, 1) := by decide +kernel
theorem dX5_carriesOutOrder_28 : decode cX5_carriesOutOrder 28 = .ok (.getfield 27, 3) := by decide +kernel
theorem dX5_carriesOutOrder_31 : decode cX5_carriesOutOrder 31 = .ok (.getfield 352, 3) := by decide +kernel
theorem dX5_carriesOutOrder_34 : decode cX5_carriesOutOrder 34 = .ok (.lookupswitch 98 #[(108, 26), (120, 51)], 26) := by decide +kernel
theorem dX5_carriesOutOrder_60 : decode cX5_carriesOutOrder 60 = .ok (.aload_n 0, 1) := by decide +kernel
theorem dX5_carriesOutOrder_61 : decode cX5_carriesOutOrder 61 = .ok (.getfield 10, 3) := by decide +kernel
theorem dX5_carriesOutOrder_64 : decode cX5_carriesOutOrder 64 = .ok (.aload_n 1, 1) := by decide +kernel
theorem dX5_carriesOutOrder_65 : decode cX5_carriesOutOrder 65 = .ok (.iload_n 2, 1) := by decide +kernel
theorem dX5_carriesOutOrder_66 : decode cX5_carriesOutOrder 66 = .ok (.invokevirtual 39, 3) := by decide +kernel
theorem dX5_carriesOutOrder_69 : decode cX5_carriesOutOrder 69 = .ok (.ifCond .ne 5, 3) := by decide +kernel
theorem dX5_carriesOutOrder_72 : decode cX5_carriesOutOrder 72 = .ok (.iconst 0, 1) := by decide +kernel
theorem dX5_carriesOutOrder_73 : decode cX5_carriesOutOrder 73 = .ok (.ireturn, 1) := by decide +kernel
theorem dX5_carriesOutOrder_74 : decode cX5_carriesOutOrder 74 = .ok (.aload_n 0, 1) := by decide +kernel
theorem dX5_carriesOutOrder_75 : decode cX5_carriesOutOrder 75 = .ok (.getfield 10, 3) := by decide +kernel
theorem dX5_carriesOutOrder_78 : decode cX5_carriesOutOrder 78 = .ok (.aload_n 1, 1) := by decide +kernel
theorem dX5_carriesOutOrder_79 : decode cX5_carriesOutOrder 79 = .ok (.iload_n 2, 1) := by decide +kernel
theorem dX5_carriesOutOrder_80 : decode cX5_carriesOutOrder 80 = .ok (.invokevirtual 53, 3) := by decide +kernel
theorem dX5_carriesOutOrder_83 : decode cX5_carriesOutOrder 83 = .ok (.iconst 1, 1) := by decide +kernel
theorem dX5_carriesOutOrder_84 : decode cX5_carriesOutOrder 84 = .ok (.ireturn, 1) := by decide +kernel
theorem dX5_carriesOutOrder_85 : decode cX5_carriesOutOrder 85 = .ok (.aload_n 0, 1) := by decide +kernel
theorem dX5_carriesOutOrder_86 : decode cX5_carriesOutOrder 86 = .ok (.aload_n 0, 1) := by decide +kernel
theorem dX5_carriesOutOrder_87 : decode cX5_carriesOutOrder 87 = .ok (.getfield 27, 3) := by decide +kernel
theorem dX5_carriesOutOrder_90 : decode cX5_carriesOutOrder 90 = .ok (.getfield 347, 3) := by decide +kernel
theorem dX5_carriesOutOrder_93 : decode cX5_carriesOutOrder 93 = .ok (.aload_n 0, 1) := by decide +kernel
theorem dX5_carriesOutOrder_94 : decode cX5_carriesOutOrder 94 = .ok (.getfield 27, 3) := by decide +kernel
theorem dX5_carriesOutOrder_97 : decode cX5_carriesOutOrder 97 = .ok (.getfield 355, 3) := by decide +kernel
theorem dX5_carriesOutOrder_100 : decode cX5_carriesOutOrder 100 = .ok (.invokevirtual 31, 3) := by decide +kernel
theorem dX5_carriesOutOrder_103 : decode cX5_carriesOutOrder 103 = .ok (.astore_n 3, 1) := by decide +kernel
theorem dX5_carriesOutOrder_104 : decode cX5_carriesOutOrder 104 = .ok (.aload_n 0, 1) := by decide +kernel
theorem dX5_carriesOutOrder_105 : decode cX5_carriesOutOrder 105 = .ok (.getfield 10, 3) := by decide +kernel
theorem dX5_carriesOutOrder_108 : decode cX5_carriesOutOrder 108 = .ok (.aload_n 1, 1) := by decide +kernel
theorem dX5_carriesOutOrder_109 : decode cX5_carriesOutOrder 109 = .ok (.aload_n 3, 1) := by decide +kernel
theorem dX5_carriesOutOrder_110 : decode cX5_carriesOutOrder 110 = .ok (.iload_n 2, 1) := by decide +kernel
theorem dX5_carriesOutOrder_111 : decode cX5_carriesOutOrder 111 = .ok (.invokevirtual 94, 3) := by decide +kernel
theorem dX5_carriesOutOrder_114 : decode cX5_carriesOutOrder 114 = .ok (.ifCond .eq 5, 3) := by decide +kernel
theorem dX5_carriesOutOrder_117 : decode cX5_carriesOutOrder 117 = .ok (.iconst 0, 1) := by decide +kernel
theorem dX5_carriesOutOrder_118 : decode cX5_carriesOutOrder 118 = .ok (.ireturn, 1) := by decide +kernel
theorem dX5_carriesOutOrder_119 : decode cX5_carriesOutOrder 119 = .ok (.aload_n 0, 1) := by decide +kernel
theorem dX5_carriesOutOrder_120 : decode cX5_carriesOutOrder 120 = .ok (.getfield 10, 3) := by decide +kernel
theorem dX5_carriesOutOrder_123 : decode cX5_carriesOutOrder 123 = .ok (.aload_n 1, 1) := by decide +kernel
theorem dX5_carriesOutOrder_124 : decode cX5_carriesOutOrder 124 = .ok (.aload_n 3, 1) := by decide +kernel
theorem dX5_carriesOutOrder_125 : decode cX5_carriesOutOrder 125 = .ok (.iload_n 2, 1) := by decide +kernel
theorem dX5_carriesOutOrder_126 : decode cX5_carriesOutOrder 126 = .ok (.invokevirtual 100, 3) := by decide +kernel
theorem dX5_carriesOutOrder_129 : decode cX5_carriesOutOrder 129 = .ok (.pop, 1) := by decide +kernel
theorem dX5_carriesOutOrder_130 : decode cX5_carriesOutOrder 130 = .ok (.iconst 1, 1) := by decide +kernel
theorem dX5_carriesOutOrder_131 : decode cX5_carriesOutOrder 131 = .ok (.ireturn, 1) := by decide +kernel
theorem dX5_carriesOutOrder_132 : decode cX5_carriesOutOrder 132 = .ok (.aload_n 0, 1) := by decide +kernel
theorem dX5_carriesOutOrder_133 : decode cX5_carriesOutOrder 133 = .ok (.getfield 10, 3) := by decide +kernel
theorem dX5_carriesOutOrder_136 : decode cX5_carriesOutOrder 136 = .ok (.aload_n 1, 1) := by decide +kernel
theorem dX5_carriesOutOrder_137 : decode cX5_carriesOutOrder 137 = .ok (.iload_n 2, 1) := by decide +kernel
theorem dX5_carriesOutOrder_138 : decode cX5_carriesOutOrder 138 = .ok (.invokevirtual 103, 3) := by decide +kernel
theorem dX5_carriesOutOrder_141 : decode cX5_carriesOutOrder 141 = .ok (.ifCond .eq 5, 3) := by decide +kernel
theorem dX5_carriesOutOrder_144 : decode cX5_carriesOutOrder 144 = .ok (.iconst 0, 1) := by decide +kernel
theorem dX5_carriesOutOrder_145 : decode cX5_carriesOutOrder 145 = .ok (.ireturn, 1) := by decide +kernel
theorem dX5_carriesOutOrder_146 : decode cX5_carriesOutOrder 146 = .ok (.aload_n 0, 1) := by decide +kernel
theorem dX5_carriesOutOrder_147 : decode cX5_carriesOutOrder 147 = .ok (.getfield 10, 3) := by decide +kernel
theorem dX5_carriesOutOrder_150 : decode cX5_carriesOutOrder 150 = .ok (.aload_n 1, 1) := by decide +kernel
theorem dX5_carriesOutOrder_151 : decode cX5_carriesOutOrder 151 = .ok (.iload_n 2, 1) := by decide +kernel
theorem dX5_carriesOutOrder_152 : decode cX5_carriesOutOrder 152 = .ok (.invokevirtual 109, 3) := by decide +kernel
theorem dX5_carriesOutOrder_155 : decode cX5_carriesOutOrder 155 = .ok (.pop, 1) := by decide +kernel
theorem dX5_carriesOutOrder_156 : decode cX5_carriesOutOrder 156 = .ok (.iconst 1, 1) := by decide +kernel
theorem dX5_carriesOutOrder_157 : decode cX5_carriesOutOrder 157 = .ok (.ireturn, 1) := by decide +kernel
theorem dX5_mix_0 : decode cX5_mix 0 = .ok (.ldc2_w 358, 3) := by decide +kernel
theorem dX5_mix_3 : decode cX5_mix 3 = .ok (.lload_n 0, 1) := by decide +kernel
theorem dX5_mix_4 : decode cX5_mix 4 = .ok (.lmul, 1) := by decide +kernel
theorem dX5_mix_5 : decode cX5_mix 5 = .ok (.lload_n 2, 1) := by decide +kernel
theorem dX5_mix_6 : decode cX5_mix 6 = .ok (.ladd, 1) := by decide +kernel
theorem dX5_mix_7 : decode cX5_mix 7 = .ok (.lreturn, 1) := by decide +kernel
theorem dX5_mixWallet_0 : decode cX5_mixWallet 0 = .ok (.lload_n 1, 1) := by decide +kernel
theorem dX5_mixWallet_1 : decode cX5_mixWallet 1 = .ok (.lstore 4, 2) := by decide +kernel
theorem dX5_mixWallet_3 : decode cX5_mixWallet 3 = .ok (.iconst 0, 1) := by decide +kernel
theorem dX5_mixWallet_4 : decode cX5_mixWallet 4 = .ok (.istore 6, 2) := by decide +kernel
theorem dX5_mixWallet_6 : decode cX5_mixWallet 6 = .ok (.iload 6, 2) := by decide +kernel
theorem dX5_mixWallet_8 : decode cX5_mixWallet 8 = .ok (.iconst 4, 1) := by decide +kernel
theorem dX5_mixWallet_9 : decode cX5_mixWallet 9 = .ok (.if_icmp .ge 74, 3) := by decide +kernel
theorem dX5_mixWallet_12 : decode cX5_mixWallet 12 = .ok (.iconst 0, 1) := by decide +kernel
theorem dX5_mixWallet_13 : decode cX5_mixWallet 13 = .ok (.istore 7, 2) := by decide +kernel
theorem dX5_mixWallet_15 : decode cX5_mixWallet 15 = .ok (.iload 7, 2) := by decide +kernel
theorem dX5_mixWallet_17 : decode cX5_mixWallet 17 = .ok (.bipush 8, 2) := by decide +kernel
theorem dX5_mixWallet_19 : decode cX5_mixWallet 19 = .ok (.if_icmp .ge 26, 3) := by decide +kernel
theorem dX5_mixWallet_22 : decode cX5_mixWallet 22 = .ok (.lload 4, 2) := by decide +kernel
theorem dX5_mixWallet_24 : decode cX5_mixWallet 24 = .ok (.aload_n 0, 1) := by decide +kernel
theorem dX5_mixWallet_25 : decode cX5_mixWallet 25 = .ok (.iload_n 3, 1) := by decide +kernel
theorem dX5_mixWallet_26 : decode cX5_mixWallet 26 = .ok (.iload 6, 2) := by decide +kernel
theorem dX5_mixWallet_28 : decode cX5_mixWallet 28 = .ok (.iload 7, 2) := by decide +kernel
theorem dX5_mixWallet_30 : decode cX5_mixWallet 30 = .ok (.invokevirtual 360, 3) := by decide +kernel
theorem dX5_mixWallet_33 : decode cX5_mixWallet 33 = .ok (.i2l, 1) := by decide +kernel
theorem dX5_mixWallet_34 : decode cX5_mixWallet 34 = .ok (.invokestatic 300, 3) := by decide +kernel
theorem dX5_mixWallet_37 : decode cX5_mixWallet 37 = .ok (.lstore 4, 2) := by decide +kernel
theorem dX5_mixWallet_39 : decode cX5_mixWallet 39 = .ok (.iinc 7 1, 3) := by decide +kernel
theorem dX5_mixWallet_42 : decode cX5_mixWallet 42 = .ok (.goto (-27), 3) := by decide +kernel
theorem dX5_mixWallet_45 : decode cX5_mixWallet 45 = .ok (.lload 4, 2) := by decide +kernel
theorem dX5_mixWallet_47 : decode cX5_mixWallet 47 = .ok (.aload_n 0, 1) := by decide +kernel
theorem dX5_mixWallet_48 : decode cX5_mixWallet 48 = .ok (.iload_n 3, 1) := by decide +kernel
theorem dX5_mixWallet_49 : decode cX5_mixWallet 49 = .ok (.iload 6, 2) := by decide +kernel
theorem dX5_mixWallet_51 : decode cX5_mixWallet 51 = .ok (.invokevirtual 364, 3) := by decide +kernel
theorem dX5_mixWallet_54 : decode cX5_mixWallet 54 = .ok (.i2l, 1) := by decide +kernel
theorem dX5_mixWallet_55 : decode cX5_mixWallet 55 = .ok (.invokestatic 300, 3) := by decide +kernel
theorem dX5_mixWallet_58 : decode cX5_mixWallet 58 = .ok (.lstore 4, 2) := by decide +kernel
theorem dX5_mixWallet_60 : decode cX5_mixWallet 60 = .ok (.lload 4, 2) := by decide +kernel
theorem dX5_mixWallet_62 : decode cX5_mixWallet 62 = .ok (.aload_n 0, 1) := by decide +kernel
theorem dX5_mixWallet_63 : decode cX5_mixWallet 63 = .ok (.iload_n 3, 1) := by decide +kernel
theorem dX5_mixWallet_64 : decode cX5_mixWallet 64 = .ok (.iload 6, 2) := by decide +kernel
theorem dX5_mixWallet_66 : decode cX5_mixWallet 66 = .ok (.invokevirtual 368, 3) := by decide +kernel
theorem dX5_mixWallet_69 : decode cX5_mixWallet 69 = .ok (.invokestatic 372, 3) := by decide +kernel
theorem dX5_mixWallet_72 : decode cX5_mixWallet 72 = .ok (.invokestatic 300, 3) := by decide +kernel
theorem dX5_mixWallet_75 : decode cX5_mixWallet 75 = .ok (.lstore 4, 2) := by decide +kernel
theorem dX5_mixWallet_77 : decode cX5_mixWallet 77 = .ok (.iinc 6 1, 3) := by decide +kernel
theorem dX5_mixWallet_80 : decode cX5_mixWallet 80 = .ok (.goto (-74), 3) := by decide +kernel
theorem dX5_mixWallet_83 : decode cX5_mixWallet 83 = .ok (.lload 4, 2) := by decide +kernel
theorem dX5_mixWallet_85 : decode cX5_mixWallet 85 = .ok (.aload_n 0, 1) := by decide +kernel
theorem dX5_mixWallet_86 : decode cX5_mixWallet 86 = .ok (.iload_n 3, 1) := by decide +kernel
theorem dX5_mixWallet_87 : decode cX5_mixWallet 87 = .ok (.iconst 0, 1) := by decide +kernel
theorem dX5_mixWallet_88 : decode cX5_mixWallet 88 = .ok (.iconst 1, 1) := by decide +kernel
theorem dX5_mixWallet_89 : decode cX5_mixWallet 89 = .ok (.sipush 1000, 3) := by decide +kernel
theorem dX5_mixWallet_92 : decode cX5_mixWallet 92 = .ok (.invokevirtual 376, 3) := by decide +kernel
theorem dX5_mixWallet_95 : decode cX5_mixWallet 95 = .ok (.i2l, 1) := by decide +kernel
theorem dX5_mixWallet_96 : decode cX5_mixWallet 96 = .ok (.invokestatic 300, 3) := by decide +kernel
theorem dX5_mixWallet_99 : decode cX5_mixWallet 99 = .ok (.lstore 4, 2) := by decide +kernel
theorem dX5_mixWallet_101 : decode cX5_mixWallet 101 = .ok (.lload 4, 2) := by decide +kernel
theorem dX5_mixWallet_103 : decode cX5_mixWallet 103 = .ok (.aload_n 0, 1) := by decide +kernel
theorem dX5_mixWallet_104 : decode cX5_mixWallet 104 = .ok (.iload_n 3, 1) := by decide +kernel
theorem dX5_mixWallet_105 : decode cX5_mixWallet 105 = .ok (.iconst 2, 1) := by decide +kernel
theorem dX5_mixWallet_106 : decode cX5_mixWallet 106 = .ok (.iconst 0, 1) := by decide +kernel
theorem dX5_mixWallet_107 : decode cX5_mixWallet 107 = .ok (.sipush 1000, 3) := by decide +kernel
theorem dX5_mixWallet_110 : decode cX5_mixWallet 110 = .ok (.invokevirtual 376, 3) := by decide +kernel
theorem dX5_mixWallet_113 : decode cX5_mixWallet 113 = .ok (.i2l, 1) := by decide +kernel
theorem dX5_mixWallet_114 : decode cX5_mixWallet 114 = .ok (.invokestatic 300, 3) := by decide +kernel
theorem dX5_mixWallet_117 : decode cX5_mixWallet 117 = .ok (.lstore 4, 2) := by decide +kernel
theorem dX5_mixWallet_119 : decode cX5_mixWallet 119 = .ok (.lload 4, 2) := by decide +kernel
theorem dX5_mixWallet_121 : decode cX5_mixWallet 121 = .ok (.aload_n 0, 1) := by decide +kernel
theorem dX5_mixWallet_122 : decode cX5_mixWallet 122 = .ok (.iload_n 3, 1) := by decide +kernel
theorem dX5_mixWallet_123 : decode cX5_mixWallet 123 = .ok (.iconst 3, 1) := by decide +kernel
theorem dX5_mixWallet_124 : decode cX5_mixWallet 124 = .ok (.sipush 500, 3) := by decide +kernel
theorem dX5_mixWallet_127 : decode cX5_mixWallet 127 = .ok (.invokevirtual 380, 3) := by decide +kernel
theorem dX5_mixWallet_130 : decode cX5_mixWallet 130 = .ok (.i2l, 1) := by decide +kernel
theorem dX5_mixWallet_131 : decode cX5_mixWallet 131 = .ok (.invokestatic 300, 3) := by decide +kernel
theorem dX5_mixWallet_134 : decode cX5_mixWallet 134 = .ok (.lstore 4, 2) := by decide +kernel
theorem dX5_mixWallet_136 : decode cX5_mixWallet 136 = .ok (.lload 4, 2) := by decide +kernel
theorem dX5_mixWallet_138 : decode cX5_mixWallet 138 = .ok (.aload_n 0, 1) := by decide +kernel
theorem dX5_mixWallet_139 : decode cX5_mixWallet 139 = .ok (.getfield 10, 3) := by decide +kernel
theorem dX5_mixWallet_142 : decode cX5_mixWallet 142 = .ok (.iload_n 3, 1) := by decide +kernel
theorem dX5_mixWallet_143 : decode cX5_mixWallet 143 = .ok (.invokevirtual 166, 3) := by decide +kernel
theorem dX5_mixWallet_146 : decode cX5_mixWallet 146 = .ok (.i2l, 1) := by decide +kernel
theorem dX5_mixWallet_147 : decode cX5_mixWallet 147 = .ok (.invokestatic 300, 3) := by decide +kernel
theorem dX5_mixWallet_150 : decode cX5_mixWallet 150 = .ok (.lstore 4, 2) := by decide +kernel
theorem dX5_mixWallet_152 : decode cX5_mixWallet 152 = .ok (.lload 4, 2) := by decide +kernel
theorem dX5_mixWallet_154 : decode cX5_mixWallet 154 = .ok (.aload_n 0, 1) := by decide +kernel
theorem dX5_mixWallet_155 : decode cX5_mixWallet 155 = .ok (.iload_n 3, 1) := by decide +kernel
theorem dX5_mixWallet_156 : decode cX5_mixWallet 156 = .ok (.invokevirtual 383, 3) := by decide +kernel
theorem dX5_mixWallet_159 : decode cX5_mixWallet 159 = .ok (.i2l, 1) := by decide +kernel
theorem dX5_mixWallet_160 : decode cX5_mixWallet 160 = .ok (.invokestatic 300, 3) := by decide +kernel
theorem dX5_mixWallet_163 : decode cX5_mixWallet 163 = .ok (.lreturn, 1) := by decide +kernel
theorem dX5_mixHolds_0 : decode cX5_mixHolds 0 = .ok (.lload_n 1, 1) := by decide +kernel
theorem dX5_mixHolds_1 : decode cX5_mixHolds 1 = .ok (.lstore_n 3, 1) := by decide +kernel
theorem dX5_mixHolds_2 : decode cX5_mixHolds 2 = .ok (.iconst 0, 1) := by decide +kernel
theorem dX5_mixHolds_3 : decode cX5_mixHolds 3 = .ok (.istore 5, 2) := by decide +kernel
theorem dX5_mixHolds_5 : decode cX5_mixHolds 5 = .ok (.iload 5, 2) := by decide +kernel
theorem dX5_mixHolds_7 : decode cX5_mixHolds 7 = .ok (.aload_n 0, 1) := by decide +kernel
theorem dX5_mixHolds_8 : decode cX5_mixHolds 8 = .ok (.getfield 10, 3) := by decide +kernel
theorem dX5_mixHolds_11 : decode cX5_mixHolds 11 = .ok (.getfield 253, 3) := by decide +kernel
theorem dX5_mixHolds_14 : decode cX5_mixHolds 14 = .ok (.if_icmp .ge 38, 3) := by decide +kernel
theorem dX5_mixHolds_17 : decode cX5_mixHolds 17 = .ok (.iconst 0, 1) := by decide +kernel
theorem dX5_mixHolds_18 : decode cX5_mixHolds 18 = .ok (.istore 6, 2) := by decide +kernel
theorem dX5_mixHolds_20 : decode cX5_mixHolds 20 = .ok (.iload 6, 2) := by decide +kernel
theorem dX5_mixHolds_22 : decode cX5_mixHolds 22 = .ok (.iconst 5, 1) := by decide +kernel
theorem dX5_mixHolds_23 : decode cX5_mixHolds 23 = .ok (.if_icmp .ge 23, 3) := by decide +kernel
theorem dX5_mixHolds_26 : decode cX5_mixHolds 26 = .ok (.lload_n 3, 1) := by decide +kernel
theorem dX5_mixHolds_27 : decode cX5_mixHolds 27 = .ok (.aload_n 0, 1) := by decide +kernel
theorem dX5_mixHolds_28 : decode cX5_mixHolds 28 = .ok (.iload 5, 2) := by decide +kernel
theorem dX5_mixHolds_30 : decode cX5_mixHolds 30 = .ok (.iload 6, 2) := by decide +kernel
theorem dX5_mixHolds_32 : decode cX5_mixHolds 32 = .ok (.invokevirtual 386, 3) := by decide +kernel
theorem dX5_mixHolds_35 : decode cX5_mixHolds 35 = .ok (.i2l, 1) := by decide +kernel
theorem dX5_mixHolds_36 : decode cX5_mixHolds 36 = .ok (.invokestatic 300, 3) := by decide +kernel
theorem dX5_mixHolds_39 : decode cX5_mixHolds 39 = .ok (.lstore_n 3, 1) := by decide +kernel
theorem dX5_mixHolds_40 : decode cX5_mixHolds 40 = .ok (.iinc 6 1, 3) := by decide +kernel
theorem dX5_mixHolds_43 : decode cX5_mixHolds 43 = .ok (.goto (-23), 3) := by decide +kernel
theorem dX5_mixHolds_46 : decode cX5_mixHolds 46 = .ok (.iinc 5 1, 3) := by decide +kernel
theorem dX5_mixHolds_49 : decode cX5_mixHolds 49 = .ok (.goto (-44), 3) := by decide +kernel
theorem dX5_mixHolds_52 : decode cX5_mixHolds 52 = .ok (.lload_n 3, 1) := by decide +kernel
theorem dX5_mixHolds_53 : decode cX5_mixHolds 53 = .ok (.lreturn, 1) := by decide +kernel
theorem dX5_mixPayments_0 : decode cX5_mixPayments 0 = .ok (.lload_n 1, 1) := by decide +kernel
theorem dX5_mixPayments_1 : decode cX5_mixPayments 1 = .ok (.lstore_n 3, 1) := by decide +kernel
theorem dX5_mixPayments_2 : decode cX5_mixPayments 2 = .ok (.iconst 0, 1) := by decide +kernel
theorem dX5_mixPayments_3 : decode cX5_mixPayments 3 = .ok (.istore 5, 2) := by decide +kernel
theorem dX5_mixPayments_5 : decode cX5_mixPayments 5 = .ok (.iload 5, 2) := by decide +kernel
theorem dX5_mixPayments_7 : decode cX5_mixPayments 7 = .ok (.aload_n 0, 1) := by decide +kernel
theorem dX5_mixPayments_8 : decode cX5_mixPayments 8 = .ok (.getfield 10, 3) := by decide +kernel
theorem dX5_mixPayments_11 : decode cX5_mixPayments 11 = .ok (.getfield 123, 3) := by decide +kernel
theorem dX5_mixPayments_14 : decode cX5_mixPayments 14 = .ok (.if_icmp .ge 39, 3) := by decide +kernel
theorem dX5_mixPayments_17 : decode cX5_mixPayments 17 = .ok (.iconst 0, 1) := by decide +kernel
theorem dX5_mixPayments_18 : decode cX5_mixPayments 18 = .ok (.istore 6, 2) := by decide +kernel
theorem dX5_mixPayments_20 : decode cX5_mixPayments 20 = .ok (.iload 6, 2) := by decide +kernel
theorem dX5_mixPayments_22 : decode cX5_mixPayments 22 = .ok (.bipush 6, 2) := by decide +kernel
theorem dX5_mixPayments_24 : decode cX5_mixPayments 24 = .ok (.if_icmp .ge 23, 3) := by decide +kernel
theorem dX5_mixPayments_27 : decode cX5_mixPayments 27 = .ok (.lload_n 3, 1) := by decide +kernel
theorem dX5_mixPayments_28 : decode cX5_mixPayments 28 = .ok (.aload_n 0, 1) := by decide +kernel
theorem dX5_mixPayments_29 : decode cX5_mixPayments 29 = .ok (.iload 5, 2) := by decide +kernel
theorem dX5_mixPayments_31 : decode cX5_mixPayments 31 = .ok (.iload 6, 2) := by decide +kernel
theorem dX5_mixPayments_33 : decode cX5_mixPayments 33 = .ok (.invokevirtual 389, 3) := by decide +kernel
theorem dX5_mixPayments_36 : decode cX5_mixPayments 36 = .ok (.i2l, 1) := by decide +kernel
theorem dX5_mixPayments_37 : decode cX5_mixPayments 37 = .ok (.invokestatic 300, 3) := by decide +kernel
theorem dX5_mixPayments_40 : decode cX5_mixPayments 40 = .ok (.lstore_n 3, 1) := by decide +kernel
theorem dX5_mixPayments_41 : decode cX5_mixPayments 41 = .ok (.iinc 6 1, 3) := by decide +kernel
theorem dX5_mixPayments_44 : decode cX5_mixPayments 44 = .ok (.goto (-24), 3) := by decide +kernel
theorem dX5_mixPayments_47 : decode cX5_mixPayments 47 = .ok (.iinc 5 1, 3) := by decide +kernel
theorem dX5_mixPayments_50 : decode cX5_mixPayments 50 = .ok (.goto (-45), 3) := by decide +kernel
theorem dX5_mixPayments_53 : decode cX5_mixPayments 53 = .ok (.lload_n 3, 1) := by decide +kernel
theorem dX5_mixPayments_54 : decode cX5_mixPayments 54 = .ok (.lreturn, 1) := by decide +kernel
theorem dX5_mixBuffer_0 : decode cX5_mixBuffer 0 = .ok (.lload_n 1, 1) := by decide +kernel
theorem dX5_mixBuffer_1 : decode cX5_mixBuffer 1 = .ok (.aload_n 0, 1) := by decide +kernel
theorem dX5_mixBuffer_2 : decode cX5_mixBuffer 2 = .ok (.getfield 193, 3) := by decide +kernel
theorem dX5_mixBuffer_5 : decode cX5_mixBuffer 5 = .ok (.i2l, 1) := by decide +kernel
theorem dX5_mixBuffer_6 : decode cX5_mixBuffer 6 = .ok (.invokestatic 300, 3) := by decide +kernel
theorem dX5_mixBuffer_9 : decode cX5_mixBuffer 9 = .ok (.lstore_n 3, 1) := by decide +kernel
theorem dX5_mixBuffer_10 : decode cX5_mixBuffer 10 = .ok (.iconst 0, 1) := by decide +kernel
theorem dX5_mixBuffer_11 : decode cX5_mixBuffer 11 = .ok (.istore 5, 2) := by decide +kernel
theorem dX5_mixBuffer_13 : decode cX5_mixBuffer 13 = .ok (.iload 5, 2) := by decide +kernel
theorem dX5_mixBuffer_15 : decode cX5_mixBuffer 15 = .ok (.aload_n 0, 1) := by decide +kernel
theorem dX5_mixBuffer_16 : decode cX5_mixBuffer 16 = .ok (.getfield 193, 3) := by decide +kernel
theorem dX5_mixBuffer_19 : decode cX5_mixBuffer 19 = .ok (.if_icmp .ge 22, 3) := by decide +kernel
theorem dX5_mixBuffer_22 : decode cX5_mixBuffer 22 = .ok (.lload_n 3, 1) := by decide +kernel
theorem dX5_mixBuffer_23 : decode cX5_mixBuffer 23 = .ok (.aload_n 0, 1) := by decide +kernel
theorem dX5_mixBuffer_24 : decode cX5_mixBuffer 24 = .ok (.getfield 20, 3) := by decide +kernel
theorem dX5_mixBuffer_27 : decode cX5_mixBuffer 27 = .ok (.iload 5, 2) := by decide +kernel
theorem dX5_mixBuffer_29 : decode cX5_mixBuffer 29 = .ok (.iaload, 1) := by decide +kernel
theorem dX5_mixBuffer_30 : decode cX5_mixBuffer 30 = .ok (.i2l, 1) := by decide +kernel
theorem dX5_mixBuffer_31 : decode cX5_mixBuffer 31 = .ok (.invokestatic 300, 3) := by decide +kernel
theorem dX5_mixBuffer_34 : decode cX5_mixBuffer 34 = .ok (.lstore_n 3, 1) := by decide +kernel
theorem dX5_mixBuffer_35 : decode cX5_mixBuffer 35 = .ok (.iinc 5 1, 3) := by decide +kernel
theorem dX5_mixBuffer_38 : decode cX5_mixBuffer 38 = .ok (.goto (-25), 3) := by decide +kernel
theorem dX5_mixBuffer_41 : decode cX5_mixBuffer 41 = .ok (.lload_n 3, 1) := by decide +kernel
theorem dX5_mixBuffer_42 : decode cX5_mixBuffer 42 = .ok (.lreturn, 1) := by decide +kernel
theorem dX5_bitsOfShare_0 : decode cX5_bitsOfShare 0 = .ok (.dload_n 0, 1) := by decide +kernel
theorem dX5_bitsOfShare_1 : decode cX5_bitsOfShare 1 = .ok (.dconst 0, 1) := by decide +kernel
theorem dX5_bitsOfShare_2 : decode cX5_bitsOfShare 2 = .ok (.dcmp .g, 1) := by decide +kernel
theorem dX5_bitsOfShare_3 : decode cX5_bitsOfShare 3 = .ok (.ifCond .gt 5, 3) := by decide +kernel
theorem dX5_bitsOfShare_6 : decode cX5_bitsOfShare 6 = .ok (.lconst 0, 1) := by decide +kernel
theorem dX5_bitsOfShare_7 : decode cX5_bitsOfShare 7 = .ok (.lreturn, 1) := by decide +kernel
theorem dX5_bitsOfShare_8 : decode cX5_bitsOfShare 8 = .ok (.dload_n 0, 1) := by decide +kernel
theorem dX5_bitsOfShare_9 : decode cX5_bitsOfShare 9 = .ok (.dstore_n 2, 1) := by decide +kernel
theorem dX5_bitsOfShare_10 : decode cX5_bitsOfShare 10 = .ok (.ldc2_w 392, 3) := by decide +kernel
theorem dX5_bitsOfShare_13 : decode cX5_bitsOfShare 13 = .ok (.lstore 4, 2) := by decide +kernel
theorem dX5_bitsOfShare_15 : decode cX5_bitsOfShare 15 = .ok (.dload_n 2, 1) := by decide +kernel
theorem dX5_bitsOfShare_16 : decode cX5_bitsOfShare 16 = .ok (.dconst 1, 1) := by decide +kernel
theorem dX5_bitsOfShare_17 : decode cX5_bitsOfShare 17 = .ok (.dcmp .g, 1) := by decide +kernel
theorem dX5_bitsOfShare_18 : decode cX5_bitsOfShare 18 = .ok (.ifCond .ge 25, 3) := by decide +kernel
theorem dX5_bitsOfShare_21 : decode cX5_bitsOfShare 21 = .ok (.lload 4, 2) := by decide +kernel
theorem dX5_bitsOfShare_23 : decode cX5_bitsOfShare 23 = .ok (.lconst 1, 1) := by decide +kernel
theorem dX5_bitsOfShare_24 : decode cX5_bitsOfShare 24 = .ok (.lcmp, 1) := by decide +kernel
theorem dX5_bitsOfShare_25 : decode cX5_bitsOfShare 25 = .ok (.ifCond .le 18, 3) := by decide +kernel
theorem dX5_bitsOfShare_28 : decode cX5_bitsOfShare 28 = .ok (.dload_n 2, 1) := by decide +kernel
theorem dX5_bitsOfShare_29 : decode cX5_bitsOfShare 29 = .ok (.ldc2_w 394, 3) := by decide +kernel
theorem dX5_bitsOfShare_32 : decode cX5_bitsOfShare 32 = .ok (.dmul, 1) := by decide +kernel
theorem dX5_bitsOfShare_33 : decode cX5_bitsOfShare 33 = .ok (.dstore_n 2, 1) := by decide +kernel
theorem dX5_bitsOfShare_34 : decode cX5_bitsOfShare 34 = .ok (.lload 4, 2) := by decide +kernel
theorem dX5_bitsOfShare_36 : decode cX5_bitsOfShare 36 = .ok (.lconst 1, 1) := by decide +kernel
theorem dX5_bitsOfShare_37 : decode cX5_bitsOfShare 37 = .ok (.lsub, 1) := by decide +kernel
theorem dX5_bitsOfShare_38 : decode cX5_bitsOfShare 38 = .ok (.lstore 4, 2) := by decide +kernel
theorem dX5_bitsOfShare_40 : decode cX5_bitsOfShare 40 = .ok (.goto (-25), 3) := by decide +kernel
theorem dX5_bitsOfShare_43 : decode cX5_bitsOfShare 43 = .ok (.dload_n 2, 1) := by decide +kernel
theorem dX5_bitsOfShare_44 : decode cX5_bitsOfShare 44 = .ok (.dconst 1, 1) := by decide +kernel
theorem dX5_bitsOfShare_45 : decode cX5_bitsOfShare 45 = .ok (.dsub, 1) := by decide +kernel
theorem dX5_bitsOfShare_46 : decode cX5_bitsOfShare 46 = .ok (.ldc2_w 396, 3) := by decide +kernel
theorem dX5_bitsOfShare_49 : decode cX5_bitsOfShare 49 = .ok (.dmul, 1) := by decide +kernel
theorem dX5_bitsOfShare_50 : decode cX5_bitsOfShare 50 = .ok (.d2l, 1) := by decide +kernel
theorem dX5_bitsOfShare_51 : decode cX5_bitsOfShare 51 = .ok (.lstore 6, 2) := by decide +kernel
theorem dX5_bitsOfShare_53 : decode cX5_bitsOfShare 53 = .ok (.lload 4, 2) := by decide +kernel
theorem dX5_bitsOfShare_55 : decode cX5_bitsOfShare 55 = .ok (.bipush 52, 2) := by decide +kernel
theorem dX5_bitsOfShare_57 : decode cX5_bitsOfShare 57 = .ok (.lshl, 1) := by decide +kernel
theorem dX5_bitsOfShare_58 : decode cX5_bitsOfShare 58 = .ok (.lload 6, 2) := by decide +kernel
theorem dX5_bitsOfShare_60 : decode cX5_bitsOfShare 60 = .ok (.lor, 1) := by decide +kernel
theorem dX5_bitsOfShare_61 : decode cX5_bitsOfShare 61 = .ok (.lreturn, 1) := by decide +kernel
theorem dX6_init_0 : decode cX6_init 0 = .ok (.aload_n 0, 1) := by decide +kernel
theorem dX6_init_1 : decode cX6_init 1 = .ok (.invokespecial 1, 3) := by decide +kernel
theorem dX6_init_4 : decode cX6_init 4 = .ok (.aload_n 0, 1) := by decide +kernel
theorem dX6_init_5 : decode cX6_init 5 = .ok (.sipush 196, 3) := by decide +kernel
theorem dX6_init_8 : decode cX6_init 8 = .ok (.newarray .int, 2) := by decide +kernel
theorem dX6_init_10 : decode cX6_init 10 = .ok (.putfield 7, 3) := by decide +kernel
theorem dX6_init_13 : decode cX6_init 13 = .ok (.aload_n 0, 1) := by decide +kernel
theorem dX6_init_14 : decode cX6_init 14 = .ok (.sipush 1176, 3) := by decide +kernel
theorem dX6_init_17 : decode cX6_init 17 = .ok (.newarray .int, 2) := by decide +kernel
theorem dX6_init_19 : decode cX6_init 19 = .ok (.putfield 13, 3) := by decide +kernel
theorem dX6_init_22 : decode cX6_init 22 = .ok (.aload_n 0, 1) := by decide +kernel
theorem dX6_init_23 : decode cX6_init 23 = .ok (.bipush 60, 2) := by decide +kernel
theorem dX6_init_25 : decode cX6_init 25 = .ok (.newarray .int, 2) := by decide +kernel
theorem dX6_init_27 : decode cX6_init 27 = .ok (.putfield 16, 3) := by decide +kernel
theorem dX6_init_30 : decode cX6_init 30 = .ok (.aload_n 0, 1) := by decide +kernel
theorem dX6_init_31 : decode cX6_init 31 = .ok (.bipush 65, 2) := by decide +kernel
theorem dX6_init_33 : decode cX6_init 33 = .ok (.newarray .int, 2) := by decide +kernel
theorem dX6_init_35 : decode cX6_init 35 = .ok (.putfield 19, 3) := by decide +kernel
theorem dX6_init_38 : decode cX6_init 38 = .ok (.aload_n 0, 1) := by decide +kernel
theorem dX6_init_39 : decode cX6_init 39 = .ok (.getfield 7, 3) := by decide +kernel
theorem dX6_init_42 : decode cX6_init 42 = .ok (.iconst 0, 1) := by decide +kernel
theorem dX6_init_43 : decode cX6_init 43 = .ok (.bipush 7, 2) := by decide +kernel
theorem dX6_init_45 : decode cX6_init 45 = .ok (.iastore, 1) := by decide +kernel
theorem dX6_init_46 : decode cX6_init 46 = .ok (.aload_n 0, 1) := by decide +kernel
theorem dX6_init_47 : decode cX6_init 47 = .ok (.getfield 7, 3) := by decide +kernel
theorem dX6_init_50 : decode cX6_init 50 = .ok (.iconst 1, 1) := by decide +kernel
theorem dX6_init_51 : decode cX6_init 51 = .ok (.bipush 10, 2) := by decide +kernel
theorem dX6_init_53 : decode cX6_init 53 = .ok (.iastore, 1) := by decide +kernel
theorem dX6_init_54 : decode cX6_init 54 = .ok (.aload_n 0, 1) := by decide +kernel
theorem dX6_init_55 : decode cX6_init 55 = .ok (.getfield 7, 3) := by decide +kernel
theorem dX6_init_58 : decode cX6_init 58 = .ok (.iconst 2, 1) := by decide +kernel
theorem dX6_init_59 : decode cX6_init 59 = .ok (.bipush 20, 2) := by decide +kernel
theorem dX6_init_61 : decode cX6_init 61 = .ok (.iastore, 1) := by decide +kernel
theorem dX6_init_62 : decode cX6_init 62 = .ok (.aload_n 0, 1) := by decide +kernel
theorem dX6_init_63 : decode cX6_init 63 = .ok (.getfield 7, 3) := by decide +kernel
theorem dX6_init_66 : decode cX6_init 66 = .ok (.iconst 3, 1) := by decide +kernel
theorem dX6_init_67 : decode cX6_init 67 = .ok (.iconst 5, 1) := by decide +kernel
theorem dX6_init_68 : decode cX6_init 68 = .ok (.iastore, 1) := by decide +kernel
theorem dX6_init_69 : decode cX6_init 69 = .ok (.aload_n 0, 1) := by decide +kernel
theorem dX6_init_70 : decode cX6_init 70 = .ok (.getfield 7, 3) := by decide +kernel
theorem dX6_init_73 : decode cX6_init 73 = .ok (.iconst 5, 1) := by decide +kernel
theorem dX6_init_74 : decode cX6_init 74 = .ok (.sipush 1000, 3) := by decide +kernel
theorem dX6_init_77 : decode cX6_init 77 = .ok (.iastore, 1) := by decide +kernel
theorem dX6_init_78 : decode cX6_init 78 = .ok (.aload_n 0, 1) := by decide +kernel
theorem dX6_init_79 : decode cX6_init 79 = .ok (.getfield 7, 3) := by decide +kernel
theorem dX6_init_82 : decode cX6_init 82 = .ok (.bipush 6, 2) := by decide +kernel
theorem dX6_init_84 : decode cX6_init 84 = .ok (.sipush 1500, 3) := by decide +kernel
theorem dX6_init_87 : decode cX6_init 87 = .ok (.iastore, 1) := by decide +kernel
theorem dX6_init_88 : decode cX6_init 88 = .ok (.aload_n 0, 1) := by decide +kernel
theorem dX6_init_89 : decode cX6_init 89 = .ok (.getfield 7, 3) := by decide +kernel
theorem dX6_init_92 : decode cX6_init 92 = .ok (.bipush 7, 2) := by decide +kernel
theorem dX6_init_94 : decode cX6_init 94 = .ok (.sipush 500, 3) := by decide +kernel
theorem dX6_init_97 : decode cX6_init 97 = .ok (.iastore, 1) := by decide +kernel
theorem dX6_init_98 : decode cX6_init 98 = .ok (.return_, 1) := by decide +kernel
theorem dX6_thrown_0 : decode cX6_thrown 0 = .ok (.aload_n 0, 1) := by decide +kernel
theorem dX6_thrown_1 : decode cX6_thrown 1 = .ok (.getfield 22, 3) := by decide +kernel
theorem dX6_thrown_4 : decode cX6_thrown 4 = .ok (.ireturn, 1) := by decide +kernel
theorem dX6_within_0 : decode cX6_within 0 = .ok (.iload_n 0, 1) := by decide +kernel
theorem dX6_within_1 : decode cX6_within 1 = .ok (.iload_n 1, 1) := by decide +kernel
theorem dX6_within_2 : decode cX6_within 2 = .ok (.if_icmp .lt 12, 3) := by decide +kernel
theorem dX6_within_5 : decode cX6_within 5 = .ok (.iload_n 0, 1) := by decide +kernel
theorem dX6_within_6 : decode cX6_within 6 = .ok (.iload_n 2, 1) := by decide +kernel
theorem dX6_within_7 : decode cX6_within 7 = .ok (.if_icmp .gt 7, 3) := by decide +kernel
theorem dX6_within_10 : decode cX6_within 10 = .ok (.iconst 1, 1) := by decide +kernel
theorem dX6_within_11 : decode cX6_within 11 = .ok (.goto 4, 3) := by decide +kernel
theorem dX6_within_14 : decode cX6_within 14 = .ok (.iconst 0, 1) := by decide +kernel
theorem dX6_within_15 : decode cX6_within 15 = .ok (.ireturn, 1) := by decide +kernel
theorem dX6_save_0 : decode cX6_save 0 = .ok (.aload_n 0, 1) := by decide +kernel
theorem dX6_save_1 : decode cX6_save 1 = .ok (.getfield 26, 3) := by decide +kernel
theorem dX6_save_4 : decode cX6_save 4 = .ok (.bipush 6, 2) := by decide +kernel
theorem dX6_save_6 : decode cX6_save 6 = .ok (.if_icmp .ne 46, 3) := by decide +kernel
theorem dX6_save_9 : decode cX6_save 9 = .ok (.sipush 196, 3) := by decide +kernel
theorem dX6_save_12 : decode cX6_save 12 = .ok (.istore_n 1, 1) := by decide +kernel
theorem dX6_save_13 : decode cX6_save 13 = .ok (.iload_n 1, 1) := by decide +kernel
theorem dX6_save_14 : decode cX6_save 14 = .ok (.sipush 1176, 3) := by decide +kernel
theorem dX6_save_17 : decode cX6_save 17 = .ok (.if_icmp .ge 25, 3) := by decide +kernel
theorem dX6_save_20 : decode cX6_save 20 = .ok (.aload_n 0, 1) := by decide +kernel
theorem dX6_save_21 : decode cX6_save 21 = .ok (.getfield 13, 3) := by decide +kernel
theorem dX6_save_24 : decode cX6_save 24 = .ok (.iload_n 1, 1) := by decide +kernel
theorem dX6_save_25 : decode cX6_save 25 = .ok (.sipush 196, 3) := by decide +kernel
theorem dX6_save_28 : decode cX6_save 28 = .ok (.isub, 1) := by decide +kernel
theorem dX6_save_29 : decode cX6_save 29 = .ok (.aload_n 0, 1) := by decide +kernel
theorem dX6_save_30 : decode cX6_save 30 = .ok (.getfield 13, 3) := by decide +kernel
theorem dX6_save_33 : decode cX6_save 33 = .ok (.iload_n 1, 1) := by decide +kernel
theorem dX6_save_34 : decode cX6_save 34 = .ok (.iaload, 1) := by decide +kernel
theorem dX6_save_35 : decode cX6_save 35 = .ok (.iastore, 1) := by decide +kernel
theorem dX6_save_36 : decode cX6_save 36 = .ok (.iinc 1 1, 3) := by decide +kernel
theorem dX6_save_39 : decode cX6_save 39 = .ok (.goto (-26), 3) := by decide +kernel
theorem dX6_save_42 : decode cX6_save 42 = .ok (.aload_n 0, 1) := by decide +kernel
theorem dX6_save_43 : decode cX6_save 43 = .ok (.dup, 1) := by decide +kernel
theorem dX6_save_44 : decode cX6_save 44 = .ok (.getfield 26, 3) := by decide +kernel
theorem dX6_save_47 : decode cX6_save 47 = .ok (.iconst 1, 1) := by decide +kernel
theorem dX6_save_48 : decode cX6_save 48 = .ok (.isub, 1) := by decide +kernel
theorem dX6_save_49 : decode cX6_save 49 = .ok (.putfield 26, 3) := by decide +kernel
theorem dX6_save_52 : decode cX6_save 52 = .ok (.iconst 0, 1) := by decide +kernel
