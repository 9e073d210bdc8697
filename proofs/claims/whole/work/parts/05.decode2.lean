theorem dX0_dropOldHolds_38 : decode cX0_dropOldHolds 38 = .ok (.invokevirtual 173, 3) := by decide +kernel
theorem dX0_dropOldHolds_41 : decode cX0_dropOldHolds 41 = .ok (.iinc 1 1, 3) := by decide +kernel
theorem dX0_dropOldHolds_44 : decode cX0_dropOldHolds 44 = .ok (.iinc 2 (-1), 3) := by decide +kernel
theorem dX0_dropOldHolds_47 : decode cX0_dropOldHolds 47 = .ok (.goto (-38), 3) := by decide +kernel
theorem dX0_dropOldHolds_50 : decode cX0_dropOldHolds 50 = .ok (.iload_n 1, 1) := by decide +kernel
theorem dX0_dropOldHolds_51 : decode cX0_dropOldHolds 51 = .ok (.ireturn, 1) := by decide +kernel
theorem dX0_addPayment_0 : decode cX0_addPayment 0 = .ok (.aload_n 0, 1) := by decide +kernel
theorem dX0_addPayment_1 : decode cX0_addPayment 1 = .ok (.getfield 72, 3) := by decide +kernel
theorem dX0_addPayment_4 : decode cX0_addPayment 4 = .ok (.aload_n 0, 1) := by decide +kernel
theorem dX0_addPayment_5 : decode cX0_addPayment 5 = .ok (.getfield 43, 3) := by decide +kernel
theorem dX0_addPayment_8 : decode cX0_addPayment 8 = .ok (.arraylength, 1) := by decide +kernel
theorem dX0_addPayment_9 : decode cX0_addPayment 9 = .ok (.if_icmp .lt 5, 3) := by decide +kernel
theorem dX0_addPayment_12 : decode cX0_addPayment 12 = .ok (.iconst (-1), 1) := by decide +kernel
theorem dX0_addPayment_13 : decode cX0_addPayment 13 = .ok (.ireturn, 1) := by decide +kernel
theorem dX0_addPayment_14 : decode cX0_addPayment 14 = .ok (.aload_n 0, 1) := by decide +kernel
theorem dX0_addPayment_15 : decode cX0_addPayment 15 = .ok (.getfield 43, 3) := by decide +kernel
theorem dX0_addPayment_18 : decode cX0_addPayment 18 = .ok (.aload_n 0, 1) := by decide +kernel
theorem dX0_addPayment_19 : decode cX0_addPayment 19 = .ok (.getfield 72, 3) := by decide +kernel
theorem dX0_addPayment_22 : decode cX0_addPayment 22 = .ok (.aaload, 1) := by decide +kernel
theorem dX0_addPayment_23 : decode cX0_addPayment 23 = .ok (.astore_n 3, 1) := by decide +kernel
theorem dX0_addPayment_24 : decode cX0_addPayment 24 = .ok (.aload_n 3, 1) := by decide +kernel
theorem dX0_addPayment_25 : decode cX0_addPayment 25 = .ok (.aload_n 1, 1) := by decide +kernel
theorem dX0_addPayment_26 : decode cX0_addPayment 26 = .ok (.getfield 167, 3) := by decide +kernel
theorem dX0_addPayment_29 : decode cX0_addPayment 29 = .ok (.putfield 163, 3) := by decide +kernel
theorem dX0_addPayment_32 : decode cX0_addPayment 32 = .ok (.aload_n 3, 1) := by decide +kernel
theorem dX0_addPayment_33 : decode cX0_addPayment 33 = .ok (.aload_n 1, 1) := by decide +kernel
theorem dX0_addPayment_34 : decode cX0_addPayment 34 = .ok (.getfield 136, 3) := by decide +kernel
theorem dX0_addPayment_37 : decode cX0_addPayment 37 = .ok (.putfield 177, 3) := by decide +kernel
theorem dX0_addPayment_40 : decode cX0_addPayment 40 = .ok (.aload_n 3, 1) := by decide +kernel
theorem dX0_addPayment_41 : decode cX0_addPayment 41 = .ok (.iload_n 2, 1) := by decide +kernel
theorem dX0_addPayment_42 : decode cX0_addPayment 42 = .ok (.putfield 178, 3) := by decide +kernel
theorem dX0_addPayment_45 : decode cX0_addPayment 45 = .ok (.aload_n 3, 1) := by decide +kernel
theorem dX0_addPayment_46 : decode cX0_addPayment 46 = .ok (.aload_n 0, 1) := by decide +kernel
theorem dX0_addPayment_47 : decode cX0_addPayment 47 = .ok (.getfield 52, 3) := by decide +kernel
theorem dX0_addPayment_50 : decode cX0_addPayment 50 = .ok (.putfield 179, 3) := by decide +kernel
theorem dX0_addPayment_53 : decode cX0_addPayment 53 = .ok (.aload_n 3, 1) := by decide +kernel
theorem dX0_addPayment_54 : decode cX0_addPayment 54 = .ok (.iconst 0, 1) := by decide +kernel
theorem dX0_addPayment_55 : decode cX0_addPayment 55 = .ok (.putfield 164, 3) := by decide +kernel
theorem dX0_addPayment_58 : decode cX0_addPayment 58 = .ok (.aload_n 0, 1) := by decide +kernel
theorem dX0_addPayment_59 : decode cX0_addPayment 59 = .ok (.dup, 1) := by decide +kernel
theorem dX0_addPayment_60 : decode cX0_addPayment 60 = .ok (.getfield 72, 3) := by decide +kernel
theorem dX0_addPayment_63 : decode cX0_addPayment 63 = .ok (.iconst 1, 1) := by decide +kernel
theorem dX0_addPayment_64 : decode cX0_addPayment 64 = .ok (.iadd, 1) := by decide +kernel
theorem dX0_addPayment_65 : decode cX0_addPayment 65 = .ok (.putfield 72, 3) := by decide +kernel
theorem dX0_addPayment_68 : decode cX0_addPayment 68 = .ok (.aload_n 0, 1) := by decide +kernel
theorem dX0_addPayment_69 : decode cX0_addPayment 69 = .ok (.getfield 72, 3) := by decide +kernel
theorem dX0_addPayment_72 : decode cX0_addPayment 72 = .ok (.iconst 1, 1) := by decide +kernel
theorem dX0_addPayment_73 : decode cX0_addPayment 73 = .ok (.isub, 1) := by decide +kernel
theorem dX0_addPayment_74 : decode cX0_addPayment 74 = .ok (.ireturn, 1) := by decide +kernel
theorem dX0_mayDispute_0 : decode cX0_mayDispute 0 = .ok (.aload_n 1, 1) := by decide +kernel
theorem dX0_mayDispute_1 : decode cX0_mayDispute 1 = .ok (.getfield 164, 3) := by decide +kernel
theorem dX0_mayDispute_4 : decode cX0_mayDispute 4 = .ok (.ifCond .ne 21, 3) := by decide +kernel
theorem dX0_mayDispute_7 : decode cX0_mayDispute 7 = .ok (.aload_n 0, 1) := by decide +kernel
theorem dX0_mayDispute_8 : decode cX0_mayDispute 8 = .ok (.getfield 52, 3) := by decide +kernel
theorem dX0_mayDispute_11 : decode cX0_mayDispute 11 = .ok (.aload_n 1, 1) := by decide +kernel
theorem dX0_mayDispute_12 : decode cX0_mayDispute 12 = .ok (.getfield 179, 3) := by decide +kernel
theorem dX0_mayDispute_15 : decode cX0_mayDispute 15 = .ok (.isub, 1) := by decide +kernel
theorem dX0_mayDispute_16 : decode cX0_mayDispute 16 = .ok (.bipush 30, 2) := by decide +kernel
theorem dX0_mayDispute_18 : decode cX0_mayDispute 18 = .ok (.if_icmp .gt 7, 3) := by decide +kernel
theorem dX0_mayDispute_21 : decode cX0_mayDispute 21 = .ok (.iconst 1, 1) := by decide +kernel
theorem dX0_mayDispute_22 : decode cX0_mayDispute 22 = .ok (.goto 4, 3) := by decide +kernel
theorem dX0_mayDispute_25 : decode cX0_mayDispute 25 = .ok (.iconst 0, 1) := by decide +kernel
theorem dX0_mayDispute_26 : decode cX0_mayDispute 26 = .ok (.ireturn, 1) := by decide +kernel
theorem dX0_disputedPayments_0 : decode cX0_disputedPayments 0 = .ok (.iconst 0, 1) := by decide +kernel
theorem dX0_disputedPayments_1 : decode cX0_disputedPayments 1 = .ok (.istore_n 1, 1) := by decide +kernel
theorem dX0_disputedPayments_2 : decode cX0_disputedPayments 2 = .ok (.iconst 0, 1) := by decide +kernel
theorem dX0_disputedPayments_3 : decode cX0_disputedPayments 3 = .ok (.istore_n 2, 1) := by decide +kernel
theorem dX0_disputedPayments_4 : decode cX0_disputedPayments 4 = .ok (.iload_n 2, 1) := by decide +kernel
theorem dX0_disputedPayments_5 : decode cX0_disputedPayments 5 = .ok (.aload_n 0, 1) := by decide +kernel
theorem dX0_disputedPayments_6 : decode cX0_disputedPayments 6 = .ok (.getfield 72, 3) := by decide +kernel
theorem dX0_disputedPayments_9 : decode cX0_disputedPayments 9 = .ok (.if_icmp .ge 25, 3) := by decide +kernel
theorem dX0_disputedPayments_12 : decode cX0_disputedPayments 12 = .ok (.aload_n 0, 1) := by decide +kernel
theorem dX0_disputedPayments_13 : decode cX0_disputedPayments 13 = .ok (.getfield 43, 3) := by decide +kernel
theorem dX0_disputedPayments_16 : decode cX0_disputedPayments 16 = .ok (.iload_n 2, 1) := by decide +kernel
theorem dX0_disputedPayments_17 : decode cX0_disputedPayments 17 = .ok (.aaload, 1) := by decide +kernel
theorem dX0_disputedPayments_18 : decode cX0_disputedPayments 18 = .ok (.getfield 164, 3) := by decide +kernel
theorem dX0_disputedPayments_21 : decode cX0_disputedPayments 21 = .ok (.iconst 1, 1) := by decide +kernel
theorem dX0_disputedPayments_22 : decode cX0_disputedPayments 22 = .ok (.if_icmp .ne 6, 3) := by decide +kernel
theorem dX0_disputedPayments_25 : decode cX0_disputedPayments 25 = .ok (.iinc 1 1, 3) := by decide +kernel
theorem dX0_disputedPayments_28 : decode cX0_disputedPayments 28 = .ok (.iinc 2 1, 3) := by decide +kernel
theorem dX0_disputedPayments_31 : decode cX0_disputedPayments 31 = .ok (.goto (-27), 3) := by decide +kernel
theorem dX0_disputedPayments_34 : decode cX0_disputedPayments 34 = .ok (.iload_n 1, 1) := by decide +kernel
theorem dX0_disputedPayments_35 : decode cX0_disputedPayments 35 = .ok (.ireturn, 1) := by decide +kernel
theorem dX0_creditIn_0 : decode cX0_creditIn 0 = .ok (.iconst 0, 1) := by decide +kernel
theorem dX0_creditIn_1 : decode cX0_creditIn 1 = .ok (.istore_n 2, 1) := by decide +kernel
theorem dX0_creditIn_2 : decode cX0_creditIn 2 = .ok (.iconst 0, 1) := by decide +kernel
theorem dX0_creditIn_3 : decode cX0_creditIn 3 = .ok (.istore_n 3, 1) := by decide +kernel
theorem dX0_creditIn_4 : decode cX0_creditIn 4 = .ok (.iload_n 3, 1) := by decide +kernel
theorem dX0_creditIn_5 : decode cX0_creditIn 5 = .ok (.aload_n 0, 1) := by decide +kernel
theorem dX0_creditIn_6 : decode cX0_creditIn 6 = .ok (.getfield 72, 3) := by decide +kernel
theorem dX0_creditIn_9 : decode cX0_creditIn 9 = .ok (.if_icmp .ge 47, 3) := by decide +kernel
theorem dX0_creditIn_12 : decode cX0_creditIn 12 = .ok (.aload_n 0, 1) := by decide +kernel
theorem dX0_creditIn_13 : decode cX0_creditIn 13 = .ok (.getfield 43, 3) := by decide +kernel
theorem dX0_creditIn_16 : decode cX0_creditIn 16 = .ok (.iload_n 3, 1) := by decide +kernel
theorem dX0_creditIn_17 : decode cX0_creditIn 17 = .ok (.aaload, 1) := by decide +kernel
theorem dX0_creditIn_18 : decode cX0_creditIn 18 = .ok (.aload_n 1, 1) := by decide +kernel
theorem dX0_creditIn_19 : decode cX0_creditIn 19 = .ok (.invokevirtual 180, 3) := by decide +kernel
theorem dX0_creditIn_22 : decode cX0_creditIn 22 = .ok (.ifCond .eq 28, 3) := by decide +kernel
theorem dX0_creditIn_25 : decode cX0_creditIn 25 = .ok (.aload_n 0, 1) := by decide +kernel
theorem dX0_creditIn_26 : decode cX0_creditIn 26 = .ok (.getfield 43, 3) := by decide +kernel
theorem dX0_creditIn_29 : decode cX0_creditIn 29 = .ok (.iload_n 3, 1) := by decide +kernel
theorem dX0_creditIn_30 : decode cX0_creditIn 30 = .ok (.aaload, 1) := by decide +kernel
theorem dX0_creditIn_31 : decode cX0_creditIn 31 = .ok (.getfield 164, 3) := by decide +kernel
theorem dX0_creditIn_34 : decode cX0_creditIn 34 = .ok (.iconst 1, 1) := by decide +kernel
theorem dX0_creditIn_35 : decode cX0_creditIn 35 = .ok (.if_icmp .ne 15, 3) := by decide +kernel
theorem dX0_creditIn_38 : decode cX0_creditIn 38 = .ok (.iload_n 2, 1) := by decide +kernel
theorem dX0_creditIn_39 : decode cX0_creditIn 39 = .ok (.aload_n 0, 1) := by decide +kernel
theorem dX0_creditIn_40 : decode cX0_creditIn 40 = .ok (.getfield 43, 3) := by decide +kernel
theorem dX0_creditIn_43 : decode cX0_creditIn 43 = .ok (.iload_n 3, 1) := by decide +kernel
theorem dX0_creditIn_44 : decode cX0_creditIn 44 = .ok (.aaload, 1) := by decide +kernel
theorem dX0_creditIn_45 : decode cX0_creditIn 45 = .ok (.getfield 178, 3) := by decide +kernel
theorem dX0_creditIn_48 : decode cX0_creditIn 48 = .ok (.iadd, 1) := by decide +kernel
theorem dX0_creditIn_49 : decode cX0_creditIn 49 = .ok (.istore_n 2, 1) := by decide +kernel
theorem dX0_creditIn_50 : decode cX0_creditIn 50 = .ok (.iinc 3 1, 3) := by decide +kernel
theorem dX0_creditIn_53 : decode cX0_creditIn 53 = .ok (.goto (-49), 3) := by decide +kernel
theorem dX0_creditIn_56 : decode cX0_creditIn 56 = .ok (.iload_n 2, 1) := by decide +kernel
theorem dX0_creditIn_57 : decode cX0_creditIn 57 = .ok (.ireturn, 1) := by decide +kernel
theorem dX0_paidFrom_0 : decode cX0_paidFrom 0 = .ok (.iconst 0, 1) := by decide +kernel
theorem dX0_paidFrom_1 : decode cX0_paidFrom 1 = .ok (.istore_n 2, 1) := by decide +kernel
theorem dX0_paidFrom_2 : decode cX0_paidFrom 2 = .ok (.iconst 0, 1) := by decide +kernel
theorem dX0_paidFrom_3 : decode cX0_paidFrom 3 = .ok (.istore_n 3, 1) := by decide +kernel
theorem dX0_paidFrom_4 : decode cX0_paidFrom 4 = .ok (.iload_n 3, 1) := by decide +kernel
theorem dX0_paidFrom_5 : decode cX0_paidFrom 5 = .ok (.aload_n 0, 1) := by decide +kernel
theorem dX0_paidFrom_6 : decode cX0_paidFrom 6 = .ok (.getfield 72, 3) := by decide +kernel
theorem dX0_paidFrom_9 : decode cX0_paidFrom 9 = .ok (.if_icmp .ge 34, 3) := by decide +kernel
theorem dX0_paidFrom_12 : decode cX0_paidFrom 12 = .ok (.aload_n 0, 1) := by decide +kernel
theorem dX0_paidFrom_13 : decode cX0_paidFrom 13 = .ok (.getfield 43, 3) := by decide +kernel
theorem dX0_paidFrom_16 : decode cX0_paidFrom 16 = .ok (.iload_n 3, 1) := by decide +kernel
theorem dX0_paidFrom_17 : decode cX0_paidFrom 17 = .ok (.aaload, 1) := by decide +kernel
theorem dX0_paidFrom_18 : decode cX0_paidFrom 18 = .ok (.aload_n 1, 1) := by decide +kernel
theorem dX0_paidFrom_19 : decode cX0_paidFrom 19 = .ok (.invokevirtual 180, 3) := by decide +kernel
theorem dX0_paidFrom_22 : decode cX0_paidFrom 22 = .ok (.ifCond .eq 15, 3) := by decide +kernel
theorem dX0_paidFrom_25 : decode cX0_paidFrom 25 = .ok (.iload_n 2, 1) := by decide +kernel
theorem dX0_paidFrom_26 : decode cX0_paidFrom 26 = .ok (.aload_n 0, 1) := by decide +kernel
theorem dX0_paidFrom_27 : decode cX0_paidFrom 27 = .ok (.getfield 43, 3) := by decide +kernel
theorem dX0_paidFrom_30 : decode cX0_paidFrom 30 = .ok (.iload_n 3, 1) := by decide +kernel
theorem dX0_paidFrom_31 : decode cX0_paidFrom 31 = .ok (.aaload, 1) := by decide +kernel
theorem dX0_paidFrom_32 : decode cX0_paidFrom 32 = .ok (.getfield 178, 3) := by decide +kernel
theorem dX0_paidFrom_35 : decode cX0_paidFrom 35 = .ok (.iadd, 1) := by decide +kernel
theorem dX0_paidFrom_36 : decode cX0_paidFrom 36 = .ok (.istore_n 2, 1) := by decide +kernel
theorem dX0_paidFrom_37 : decode cX0_paidFrom 37 = .ok (.iinc 3 1, 3) := by decide +kernel
theorem dX0_paidFrom_40 : decode cX0_paidFrom 40 = .ok (.goto (-36), 3) := by decide +kernel
theorem dX0_paidFrom_43 : decode cX0_paidFrom 43 = .ok (.iload_n 2, 1) := by decide +kernel
theorem dX0_paidFrom_44 : decode cX0_paidFrom 44 = .ok (.ireturn, 1) := by decide +kernel
theorem dX1_init_0 : decode cX1_init 0 = .ok (.aload_n 0, 1) := by decide +kernel
theorem dX1_init_1 : decode cX1_init 1 = .ok (.invokespecial 1, 3) := by decide +kernel
theorem dX1_init_4 : decode cX1_init 4 = .ok (.return_, 1) := by decide +kernel
theorem dX1_isIn_0 : decode cX1_isIn 0 = .ok (.aload_n 0, 1) := by decide +kernel
theorem dX1_isIn_1 : decode cX1_isIn 1 = .ok (.getfield 7, 3) := by decide +kernel
theorem dX1_isIn_4 : decode cX1_isIn 4 = .ok (.aload_n 1, 1) := by decide +kernel
theorem dX1_isIn_5 : decode cX1_isIn 5 = .ok (.getfield 13, 3) := by decide +kernel
theorem dX1_isIn_8 : decode cX1_isIn 8 = .ok (.if_icmp .ne 18, 3) := by decide +kernel
theorem dX1_isIn_11 : decode cX1_isIn 11 = .ok (.aload_n 0, 1) := by decide +kernel
theorem dX1_isIn_12 : decode cX1_isIn 12 = .ok (.getfield 16, 3) := by decide +kernel
theorem dX1_isIn_15 : decode cX1_isIn 15 = .ok (.aload_n 1, 1) := by decide +kernel
theorem dX1_isIn_16 : decode cX1_isIn 16 = .ok (.getfield 19, 3) := by decide +kernel
theorem dX1_isIn_19 : decode cX1_isIn 19 = .ok (.if_icmp .ne 7, 3) := by decide +kernel
theorem dX1_isIn_22 : decode cX1_isIn 22 = .ok (.iconst 1, 1) := by decide +kernel
theorem dX1_isIn_23 : decode cX1_isIn 23 = .ok (.goto 4, 3) := by decide +kernel
theorem dX1_isIn_26 : decode cX1_isIn 26 = .ok (.iconst 0, 1) := by decide +kernel
theorem dX1_isIn_27 : decode cX1_isIn 27 = .ok (.ireturn, 1) := by decide +kernel
theorem dX1_copyFrom_0 : decode cX1_copyFrom 0 = .ok (.aload_n 0, 1) := by decide +kernel
theorem dX1_copyFrom_1 : decode cX1_copyFrom 1 = .ok (.aload_n 1, 1) := by decide +kernel
theorem dX1_copyFrom_2 : decode cX1_copyFrom 2 = .ok (.getfield 7, 3) := by decide +kernel
theorem dX1_copyFrom_5 : decode cX1_copyFrom 5 = .ok (.putfield 7, 3) := by decide +kernel
theorem dX1_copyFrom_8 : decode cX1_copyFrom 8 = .ok (.aload_n 0, 1) := by decide +kernel
theorem dX1_copyFrom_9 : decode cX1_copyFrom 9 = .ok (.aload_n 1, 1) := by decide +kernel
theorem dX1_copyFrom_10 : decode cX1_copyFrom 10 = .ok (.getfield 16, 3) := by decide +kernel
theorem dX1_copyFrom_13 : decode cX1_copyFrom 13 = .ok (.putfield 16, 3) := by decide +kernel
theorem dX1_copyFrom_16 : decode cX1_copyFrom 16 = .ok (.aload_n 0, 1) := by decide +kernel
theorem dX1_copyFrom_17 : decode cX1_copyFrom 17 = .ok (.aload_n 1, 1) := by decide +kernel
theorem dX1_copyFrom_18 : decode cX1_copyFrom 18 = .ok (.getfield 20, 3) := by decide +kernel
theorem dX1_copyFrom_21 : decode cX1_copyFrom 21 = .ok (.putfield 20, 3) := by decide +kernel
theorem dX1_copyFrom_24 : decode cX1_copyFrom 24 = .ok (.aload_n 0, 1) := by decide +kernel
theorem dX1_copyFrom_25 : decode cX1_copyFrom 25 = .ok (.aload_n 1, 1) := by decide +kernel
theorem dX1_copyFrom_26 : decode cX1_copyFrom 26 = .ok (.getfield 23, 3) := by decide +kernel
theorem dX1_copyFrom_29 : decode cX1_copyFrom 29 = .ok (.putfield 23, 3) := by decide +kernel
theorem dX1_copyFrom_32 : decode cX1_copyFrom 32 = .ok (.aload_n 0, 1) := by decide +kernel
theorem dX1_copyFrom_33 : decode cX1_copyFrom 33 = .ok (.aload_n 1, 1) := by decide +kernel
theorem dX1_copyFrom_34 : decode cX1_copyFrom 34 = .ok (.getfield 26, 3) := by decide +kernel
theorem dX1_copyFrom_37 : decode cX1_copyFrom 37 = .ok (.putfield 26, 3) := by decide +kernel
theorem dX1_copyFrom_40 : decode cX1_copyFrom 40 = .ok (.return_, 1) := by decide +kernel
theorem dX2_init_0 : decode cX2_init 0 = .ok (.aload_n 0, 1) := by decide +kernel
theorem dX2_init_1 : decode cX2_init 1 = .ok (.invokespecial 3, 3) := by decide +kernel
theorem dX2_init_4 : decode cX2_init 4 = .ok (.return_, 1) := by decide +kernel
theorem dX2_startOrder_0 : decode cX2_startOrder 0 = .ok (.aload_n 0, 1) := by decide +kernel
theorem dX2_startOrder_1 : decode cX2_startOrder 1 = .ok (.iconst 0, 1) := by decide +kernel
theorem dX2_startOrder_2 : decode cX2_startOrder 2 = .ok (.putfield 9, 3) := by decide +kernel
theorem dX2_startOrder_5 : decode cX2_startOrder 5 = .ok (.aload_n 0, 1) := by decide +kernel
theorem dX2_startOrder_6 : decode cX2_startOrder 6 = .ok (.iconst 0, 1) := by decide +kernel
theorem dX2_startOrder_7 : decode cX2_startOrder 7 = .ok (.putfield 15, 3) := by decide +kernel
theorem dX2_startOrder_10 : decode cX2_startOrder 10 = .ok (.aload_n 0, 1) := by decide +kernel
theorem dX2_startOrder_11 : decode cX2_startOrder 11 = .ok (.iconst 0, 1) := by decide +kernel
theorem dX2_startOrder_12 : decode cX2_startOrder 12 = .ok (.putfield 18, 3) := by decide +kernel
theorem dX2_startOrder_15 : decode cX2_startOrder 15 = .ok (.aload_n 0, 1) := by decide +kernel
theorem dX2_startOrder_16 : decode cX2_startOrder 16 = .ok (.iconst 0, 1) := by decide +kernel
theorem dX2_startOrder_17 : decode cX2_startOrder 17 = .ok (.putfield 21, 3) := by decide +kernel
theorem dX2_startOrder_20 : decode cX2_startOrder 20 = .ok (.aload_n 0, 1) := by decide +kernel
theorem dX2_startOrder_21 : decode cX2_startOrder 21 = .ok (.iconst 0, 1) := by decide +kernel
theorem dX2_startOrder_22 : decode cX2_startOrder 22 = .ok (.putfield 24, 3) := by decide +kernel
theorem dX2_startOrder_25 : decode cX2_startOrder 25 = .ok (.aload_n 0, 1) := by decide +kernel
theorem dX2_startOrder_26 : decode cX2_startOrder 26 = .ok (.iconst 0, 1) := by decide +kernel
theorem dX2_startOrder_27 : decode cX2_startOrder 27 = .ok (.putfield 27, 3) := by decide +kernel
theorem dX2_startOrder_30 : decode cX2_startOrder 30 = .ok (.aload_n 0, 1) := by decide +kernel
theorem dX2_startOrder_31 : decode cX2_startOrder 31 = .ok (.iconst 0, 1) := by decide +kernel
theorem dX2_startOrder_32 : decode cX2_startOrder 32 = .ok (.putfield 30, 3) := by decide +kernel
theorem dX2_startOrder_35 : decode cX2_startOrder 35 = .ok (.return_, 1) := by decide +kernel
theorem dX2_isOrderWhole_0 : decode cX2_isOrderWhole 0 = .ok (.aload_n 0, 1) := by decide +kernel
theorem dX2_isOrderWhole_1 : decode cX2_isOrderWhole 1 = .ok (.getfield 24, 3) := by decide +kernel
theorem dX2_isOrderWhole_4 : decode cX2_isOrderWhole 4 = .ok (.ifCond .le 7, 3) := by decide +kernel
theorem dX2_isOrderWhole_7 : decode cX2_isOrderWhole 7 = .ok (.iconst 1, 1) := by decide +kernel
theorem dX2_isOrderWhole_8 : decode cX2_isOrderWhole 8 = .ok (.goto 4, 3) := by decide +kernel
theorem dX2_isOrderWhole_11 : decode cX2_isOrderWhole 11 = .ok (.iconst 0, 1) := by decide +kernel
theorem dX2_isOrderWhole_12 : decode cX2_isOrderWhole 12 = .ok (.ireturn, 1) := by decide +kernel
theorem dX2_reads_0 : decode cX2_reads 0 = .ok (.aload_n 0, 1) := by decide +kernel
theorem dX2_reads_1 : decode cX2_reads 1 = .ok (.getfield 9, 3) := by decide +kernel
theorem dX2_reads_4 : decode cX2_reads 4 = .ok (.ifCond .ne 9, 3) := by decide +kernel
theorem dX2_reads_7 : decode cX2_reads 7 = .ok (.aload_n 0, 1) := by decide +kernel
theorem dX2_reads_8 : decode cX2_reads 8 = .ok (.iload_n 1, 1) := by decide +kernel
theorem dX2_reads_9 : decode cX2_reads 9 = .ok (.invokevirtual 34, 3) := by decide +kernel
theorem dX2_reads_12 : decode cX2_reads 12 = .ok (.ireturn, 1) := by decide +kernel
theorem dX2_reads_13 : decode cX2_reads 13 = .ok (.aload_n 0, 1) := by decide +kernel
theorem dX2_reads_14 : decode cX2_reads 14 = .ok (.getfield 27, 3) := by decide +kernel
theorem dX2_reads_17 : decode cX2_reads 17 = .ok (.aload_n 0, 1) := by decide +kernel
theorem dX2_reads_18 : decode cX2_reads 18 = .ok (.invokevirtual 38, 3) := by decide +kernel
theorem dX2_reads_21 : decode cX2_reads 21 = .ok (.if_icmp .ge 9, 3) := by decide +kernel
theorem dX2_reads_24 : decode cX2_reads 24 = .ok (.aload_n 0, 1) := by decide +kernel
theorem dX2_reads_25 : decode cX2_reads 25 = .ok (.iload_n 1, 1) := by decide +kernel
theorem dX2_reads_26 : decode cX2_reads 26 = .ok (.invokevirtual 42, 3) := by decide +kernel
theorem dX2_reads_29 : decode cX2_reads 29 = .ok (.ireturn, 1) := by decide +kernel
theorem dX2_reads_30 : decode cX2_reads 30 = .ok (.aload_n 0, 1) := by decide +kernel
theorem dX2_reads_31 : decode cX2_reads 31 = .ok (.getfield 30, 3) := by decide +kernel
theorem dX2_reads_34 : decode cX2_reads 34 = .ok (.ifCond .ne 37, 3) := by decide +kernel
theorem dX2_reads_37 : decode cX2_reads 37 = .ok (.aload_n 0, 1) := by decide +kernel
theorem dX2_reads_38 : decode cX2_reads 38 = .ok (.iload_n 1, 1) := by decide +kernel
theorem dX2_reads_39 : decode cX2_reads 39 = .ok (.aload_n 0, 1) := by decide +kernel
theorem dX2_reads_40 : decode cX2_reads 40 = .ok (.getfield 9, 3) := by decide +kernel
theorem dX2_reads_43 : decode cX2_reads 43 = .ok (.bipush 108, 2) := by decide +kernel
theorem dX2_reads_45 : decode cX2_reads 45 = .ok (.if_icmp .ne 8, 3) := by decide +kernel
theorem dX2_reads_48 : decode cX2_reads 48 = .ok (.bipush 43, 2) := by decide +kernel
theorem dX2_reads_50 : decode cX2_reads 50 = .ok (.goto 5, 3) := by decide +kernel
theorem dX2_reads_53 : decode cX2_reads 53 = .ok (.bipush 58, 2) := by decide +kernel
theorem dX2_reads_55 : decode cX2_reads 55 = .ok (.if_icmp .ne 7, 3) := by decide +kernel
theorem dX2_reads_58 : decode cX2_reads 58 = .ok (.iconst 1, 1) := by decide +kernel
theorem dX2_reads_59 : decode cX2_reads 59 = .ok (.goto 4, 3) := by decide +kernel
theorem dX2_reads_62 : decode cX2_reads 62 = .ok (.iconst 0, 1) := by decide +kernel
theorem dX2_reads_63 : decode cX2_reads 63 = .ok (.putfield 30, 3) := by decide +kernel
theorem dX2_reads_66 : decode cX2_reads 66 = .ok (.aload_n 0, 1) := by decide +kernel
theorem dX2_reads_67 : decode cX2_reads 67 = .ok (.getfield 30, 3) := by decide +kernel
theorem dX2_reads_70 : decode cX2_reads 70 = .ok (.ireturn, 1) := by decide +kernel
theorem dX2_reads_71 : decode cX2_reads 71 = .ok (.iload_n 1, 1) := by decide +kernel
theorem dX2_reads_72 : decode cX2_reads 72 = .ok (.bipush 59, 2) := by decide +kernel
theorem dX2_reads_74 : decode cX2_reads 74 = .ok (.if_icmp .ne 16, 3) := by decide +kernel
theorem dX2_reads_77 : decode cX2_reads 77 = .ok (.aload_n 0, 1) := by decide +kernel
theorem dX2_reads_78 : decode cX2_reads 78 = .ok (.invokevirtual 45, 3) := by decide +kernel
theorem dX2_reads_81 : decode cX2_reads 81 = .ok (.ifCond .eq 9, 3) := by decide +kernel
theorem dX2_reads_84 : decode cX2_reads 84 = .ok (.aload_n 0, 1) := by decide +kernel
theorem dX2_reads_85 : decode cX2_reads 85 = .ok (.invokevirtual 49, 3) := by decide +kernel
theorem dX2_reads_88 : decode cX2_reads 88 = .ok (.iconst 1, 1) := by decide +kernel
theorem dX2_reads_89 : decode cX2_reads 89 = .ok (.ireturn, 1) := by decide +kernel
theorem dX2_reads_90 : decode cX2_reads 90 = .ok (.aload_n 0, 1) := by decide +kernel
theorem dX2_reads_91 : decode cX2_reads 91 = .ok (.iload_n 1, 1) := by decide +kernel
theorem dX2_reads_92 : decode cX2_reads 92 = .ok (.invokevirtual 52, 3) := by decide +kernel
theorem dX2_reads_95 : decode cX2_reads 95 = .ok (.ireturn, 1) := by decide +kernel
theorem dX2_readsSign_0 : decode cX2_readsSign 0 = .ok (.iload_n 1, 1) := by decide +kernel
theorem dX2_readsSign_1 : decode cX2_readsSign 1 = .ok (.bipush 108, 2) := by decide +kernel
theorem dX2_readsSign_3 : decode cX2_readsSign 3 = .ok (.if_icmp .eq 17, 3) := by decide +kernel
theorem dX2_readsSign_6 : decode cX2_readsSign 6 = .ok (.iload_n 1, 1) := by decide +kernel
theorem dX2_readsSign_7 : decode cX2_readsSign 7 = .ok (.bipush 120, 2) := by decide +kernel
theorem dX2_readsSign_9 : decode cX2_readsSign 9 = .ok (.if_icmp .eq 11, 3) := by decide +kernel
theorem dX2_readsSign_12 : decode cX2_readsSign 12 = .ok (.iload_n 1, 1) := by decide +kernel
theorem dX2_readsSign_13 : decode cX2_readsSign 13 = .ok (.bipush 104, 2) := by decide +kernel
theorem dX2_readsSign_15 : decode cX2_readsSign 15 = .ok (.if_icmp .eq 5, 3) := by decide +kernel
theorem dX2_readsSign_18 : decode cX2_readsSign 18 = .ok (.iconst 0, 1) := by decide +kernel
theorem dX2_readsSign_19 : decode cX2_readsSign 19 = .ok (.ireturn, 1) := by decide +kernel
theorem dX2_readsSign_20 : decode cX2_readsSign 20 = .ok (.aload_n 0, 1) := by decide +kernel
theorem dX2_readsSign_21 : decode cX2_readsSign 21 = .ok (.iload_n 1, 1) := by decide +kernel
theorem dX2_readsSign_22 : decode cX2_readsSign 22 = .ok (.putfield 9, 3) := by decide +kernel
theorem dX2_readsSign_25 : decode cX2_readsSign 25 = .ok (.iconst 1, 1) := by decide +kernel
theorem dX2_readsSign_26 : decode cX2_readsSign 26 = .ok (.ireturn, 1) := by decide +kernel
theorem dX2_digitsDue_0 : decode cX2_digitsDue 0 = .ok (.aload_n 0, 1) := by decide +kernel
theorem dX2_digitsDue_1 : decode cX2_digitsDue 1 = .ok (.getfield 9, 3) := by decide +kernel
theorem dX2_digitsDue_4 : decode cX2_digitsDue 4 = .ok (.bipush 108, 2) := by decide +kernel
theorem dX2_digitsDue_6 : decode cX2_digitsDue 6 = .ok (.if_icmp .ne 5, 3) := by decide +kernel
theorem dX2_digitsDue_9 : decode cX2_digitsDue 9 = .ok (.iconst 1, 1) := by decide +kernel
theorem dX2_digitsDue_10 : decode cX2_digitsDue 10 = .ok (.ireturn, 1) := by decide +kernel
theorem dX2_digitsDue_11 : decode cX2_digitsDue 11 = .ok (.aload_n 0, 1) := by decide +kernel
theorem dX2_digitsDue_12 : decode cX2_digitsDue 12 = .ok (.getfield 9, 3) := by decide +kernel
theorem dX2_digitsDue_15 : decode cX2_digitsDue 15 = .ok (.bipush 120, 2) := by decide +kernel
theorem dX2_digitsDue_17 : decode cX2_digitsDue 17 = .ok (.if_icmp .ne 7, 3) := by decide +kernel
theorem dX2_digitsDue_20 : decode cX2_digitsDue 20 = .ok (.iconst 3, 1) := by decide +kernel
theorem dX2_digitsDue_21 : decode cX2_digitsDue 21 = .ok (.goto 4, 3) := by decide +kernel
theorem dX2_digitsDue_24 : decode cX2_digitsDue 24 = .ok (.iconst 2, 1) := by decide +kernel
theorem dX2_digitsDue_25 : decode cX2_digitsDue 25 = .ok (.ireturn, 1) := by decide +kernel
theorem dX2_readsDigit_0 : decode cX2_readsDigit 0 = .ok (.iload_n 1, 1) := by decide +kernel
theorem dX2_readsDigit_1 : decode cX2_readsDigit 1 = .ok (.bipush 48, 2) := by decide +kernel
theorem dX2_readsDigit_3 : decode cX2_readsDigit 3 = .ok (.if_icmp .lt 9, 3) := by decide +kernel
theorem dX2_readsDigit_6 : decode cX2_readsDigit 6 = .ok (.iload_n 1, 1) := by decide +kernel
theorem dX2_readsDigit_7 : decode cX2_readsDigit 7 = .ok (.bipush 51, 2) := by decide +kernel
theorem dX2_readsDigit_9 : decode cX2_readsDigit 9 = .ok (.if_icmp .le 5, 3) := by decide +kernel
theorem dX2_readsDigit_12 : decode cX2_readsDigit 12 = .ok (.iconst 0, 1) := by decide +kernel
theorem dX2_readsDigit_13 : decode cX2_readsDigit 13 = .ok (.ireturn, 1) := by decide +kernel
theorem dX2_readsDigit_14 : decode cX2_readsDigit 14 = .ok (.iload_n 1, 1) := by decide +kernel
theorem dX2_readsDigit_15 : decode cX2_readsDigit 15 = .ok (.bipush 48, 2) := by decide +kernel
theorem dX2_readsDigit_17 : decode cX2_readsDigit 17 = .ok (.isub, 1) := by decide +kernel
theorem dX2_readsDigit_18 : decode cX2_readsDigit 18 = .ok (.istore_n 2, 1) := by decide +kernel
theorem dX2_readsDigit_19 : decode cX2_readsDigit 19 = .ok (.aload_n 0, 1) := by decide +kernel
theorem dX2_readsDigit_20 : decode cX2_readsDigit 20 = .ok (.getfield 27, 3) := by decide +kernel
theorem dX2_readsDigit_23 : decode cX2_readsDigit 23 = .ok (.ifCond .ne 11, 3) := by decide +kernel
theorem dX2_readsDigit_26 : decode cX2_readsDigit 26 = .ok (.aload_n 0, 1) := by decide +kernel
theorem dX2_readsDigit_27 : decode cX2_readsDigit 27 = .ok (.iload_n 2, 1) := by decide +kernel
theorem dX2_readsDigit_28 : decode cX2_readsDigit 28 = .ok (.putfield 15, 3) := by decide +kernel
theorem dX2_readsDigit_31 : decode cX2_readsDigit 31 = .ok (.goto 24, 3) := by decide +kernel
theorem dX2_readsDigit_34 : decode cX2_readsDigit 34 = .ok (.aload_n 0, 1) := by decide +kernel
theorem dX2_readsDigit_35 : decode cX2_readsDigit 35 = .ok (.getfield 27, 3) := by decide +kernel
theorem dX2_readsDigit_38 : decode cX2_readsDigit 38 = .ok (.iconst 1, 1) := by decide +kernel
theorem dX2_readsDigit_39 : decode cX2_readsDigit 39 = .ok (.if_icmp .ne 11, 3) := by decide +kernel
theorem dX2_readsDigit_42 : decode cX2_readsDigit 42 = .ok (.aload_n 0, 1) := by decide +kernel
theorem dX2_readsDigit_43 : decode cX2_readsDigit 43 = .ok (.iload_n 2, 1) := by decide +kernel
theorem dX2_readsDigit_44 : decode cX2_readsDigit 44 = .ok (.putfield 18, 3) := by decide +kernel
theorem dX2_readsDigit_47 : decode cX2_readsDigit 47 = .ok (.goto 8, 3) := by decide +kernel
theorem dX2_readsDigit_50 : decode cX2_readsDigit 50 = .ok (.aload_n 0, 1) := by decide +kernel
theorem dX2_readsDigit_51 : decode cX2_readsDigit 51 = .ok (.iload_n 2, 1) := by decide +kernel
theorem dX2_readsDigit_52 : decode cX2_readsDigit 52 = .ok (.putfield 21, 3) := by decide +kernel
theorem dX2_readsDigit_55 : decode cX2_readsDigit 55 = .ok (.aload_n 0, 1) := by decide +kernel
theorem dX2_readsDigit_56 : decode cX2_readsDigit 56 = .ok (.dup, 1) := by decide +kernel
theorem dX2_readsDigit_57 : decode cX2_readsDigit 57 = .ok (.getfield 27, 3) := by decide +kernel
theorem dX2_readsDigit_60 : decode cX2_readsDigit 60 = .ok (.iconst 1, 1) := by decide +kernel
theorem dX2_readsDigit_61 : decode cX2_readsDigit 61 = .ok (.iadd, 1) := by decide +kernel
theorem dX2_readsDigit_62 : decode cX2_readsDigit 62 = .ok (.putfield 27, 3) := by decide +kernel
theorem dX2_readsDigit_65 : decode cX2_readsDigit 65 = .ok (.iconst 1, 1) := by decide +kernel
theorem dX2_readsDigit_66 : decode cX2_readsDigit 66 = .ok (.ireturn, 1) := by decide +kernel
theorem dX2_readsAmount_0 : decode cX2_readsAmount 0 = .ok (.aload_n 0, 1) := by decide +kernel
theorem dX2_readsAmount_1 : decode cX2_readsAmount 1 = .ok (.invokevirtual 45, 3) := by decide +kernel
theorem dX2_readsAmount_4 : decode cX2_readsAmount 4 = .ok (.ifCond .eq 8, 3) := by decide +kernel
theorem dX2_readsAmount_7 : decode cX2_readsAmount 7 = .ok (.bipush 48, 2) := by decide +kernel
theorem dX2_readsAmount_9 : decode cX2_readsAmount 9 = .ok (.goto 5, 3) := by decide +kernel
theorem dX2_readsAmount_12 : decode cX2_readsAmount 12 = .ok (.bipush 49, 2) := by decide +kernel
theorem dX2_readsAmount_14 : decode cX2_readsAmount 14 = .ok (.istore_n 2, 1) := by decide +kernel
theorem dX2_readsAmount_15 : decode cX2_readsAmount 15 = .ok (.iload_n 1, 1) := by decide +kernel
theorem dX2_readsAmount_16 : decode cX2_readsAmount 16 = .ok (.iload_n 2, 1) := by decide +kernel
theorem dX2_readsAmount_17 : decode cX2_readsAmount 17 = .ok (.if_icmp .lt 19, 3) := by decide +kernel
theorem dX2_readsAmount_20 : decode cX2_readsAmount 20 = .ok (.iload_n 1, 1) := by decide +kernel
theorem dX2_readsAmount_21 : decode cX2_readsAmount 21 = .ok (.bipush 57, 2) := by decide +kernel
theorem dX2_readsAmount_23 : decode cX2_readsAmount 23 = .ok (.if_icmp .gt 13, 3) := by decide +kernel
theorem dX2_readsAmount_26 : decode cX2_readsAmount 26 = .ok (.aload_n 0, 1) := by decide +kernel
theorem dX2_readsAmount_27 : decode cX2_readsAmount 27 = .ok (.getfield 24, 3) := by decide +kernel
theorem dX2_readsAmount_30 : decode cX2_readsAmount 30 = .ok (.sipush 9999, 3) := by decide +kernel
theorem dX2_readsAmount_33 : decode cX2_readsAmount 33 = .ok (.if_icmp .le 5, 3) := by decide +kernel
theorem dX2_readsAmount_36 : decode cX2_readsAmount 36 = .ok (.iconst 0, 1) := by decide +kernel
theorem dX2_readsAmount_37 : decode cX2_readsAmount 37 = .ok (.ireturn, 1) := by decide +kernel
theorem dX2_readsAmount_38 : decode cX2_readsAmount 38 = .ok (.aload_n 0, 1) := by decide +kernel
theorem dX2_readsAmount_39 : decode cX2_readsAmount 39 = .ok (.aload_n 0, 1) := by decide +kernel
theorem dX2_readsAmount_40 : decode cX2_readsAmount 40 = .ok (.getfield 24, 3) := by decide +kernel
theorem dX2_readsAmount_43 : decode cX2_readsAmount 43 = .ok (.bipush 10, 2) := by decide +kernel
theorem dX2_readsAmount_45 : decode cX2_readsAmount 45 = .ok (.imul, 1) := by decide +kernel
theorem dX2_readsAmount_46 : decode cX2_readsAmount 46 = .ok (.iload_n 1, 1) := by decide +kernel
theorem dX2_readsAmount_47 : decode cX2_readsAmount 47 = .ok (.bipush 48, 2) := by decide +kernel
theorem dX2_readsAmount_49 : decode cX2_readsAmount 49 = .ok (.isub, 1) := by decide +kernel
theorem dX2_readsAmount_50 : decode cX2_readsAmount 50 = .ok (.iadd, 1) := by decide +kernel
theorem dX2_readsAmount_51 : decode cX2_readsAmount 51 = .ok (.putfield 24, 3) := by decide +kernel
theorem dX2_readsAmount_54 : decode cX2_readsAmount 54 = .ok (.iconst 1, 1) := by decide +kernel
theorem dX2_readsAmount_55 : decode cX2_readsAmount 55 = .ok (.ireturn, 1) := by decide +kernel
theorem dX3_init_0 : decode cX3_init 0 = .ok (.aload_n 0, 1) := by decide +kernel
theorem dX3_init_1 : decode cX3_init 1 = .ok (.invokespecial 1, 3) := by decide +kernel
theorem dX3_init_4 : decode cX3_init 4 = .ok (.return_, 1) := by decide +kernel
theorem dX3_isOutOf_0 : decode cX3_isOutOf 0 = .ok (.aload_n 0, 1) := by decide +kernel
theorem dX3_isOutOf_1 : decode cX3_isOutOf 1 = .ok (.getfield 7, 3) := by decide +kernel
theorem dX3_isOutOf_4 : decode cX3_isOutOf 4 = .ok (.aload_n 1, 1) := by decide +kernel
theorem dX3_isOutOf_5 : decode cX3_isOutOf 5 = .ok (.getfield 13, 3) := by decide +kernel
theorem dX3_isOutOf_8 : decode cX3_isOutOf 8 = .ok (.if_icmp .ne 18, 3) := by decide +kernel
theorem dX3_isOutOf_11 : decode cX3_isOutOf 11 = .ok (.aload_n 0, 1) := by decide +kernel
theorem dX3_isOutOf_12 : decode cX3_isOutOf 12 = .ok (.getfield 16, 3) := by decide +kernel
theorem dX3_isOutOf_15 : decode cX3_isOutOf 15 = .ok (.aload_n 1, 1) := by decide +kernel
theorem dX3_isOutOf_16 : decode cX3_isOutOf 16 = .ok (.getfield 19, 3) := by decide +kernel
theorem dX3_isOutOf_19 : decode cX3_isOutOf 19 = .ok (.if_icmp .ne 7, 3) := by decide +kernel
theorem dX3_isOutOf_22 : decode cX3_isOutOf 22 = .ok (.iconst 1, 1) := by decide +kernel
theorem dX3_isOutOf_23 : decode cX3_isOutOf 23 = .ok (.goto 4, 3) := by decide +kernel
theorem dX3_isOutOf_26 : decode cX3_isOutOf 26 = .ok (.iconst 0, 1) := by decide +kernel
theorem dX3_isOutOf_27 : decode cX3_isOutOf 27 = .ok (.ireturn, 1) := by decide +kernel
theorem dX3_copyFrom_0 : decode cX3_copyFrom 0 = .ok (.aload_n 0, 1) := by decide +kernel
theorem dX3_copyFrom_1 : decode cX3_copyFrom 1 = .ok (.aload_n 1, 1) := by decide +kernel
theorem dX3_copyFrom_2 : decode cX3_copyFrom 2 = .ok (.getfield 7, 3) := by decide +kernel
theorem dX3_copyFrom_5 : decode cX3_copyFrom 5 = .ok (.putfield 7, 3) := by decide +kernel
theorem dX3_copyFrom_8 : decode cX3_copyFrom 8 = .ok (.aload_n 0, 1) := by decide +kernel
theorem dX3_copyFrom_9 : decode cX3_copyFrom 9 = .ok (.aload_n 1, 1) := by decide +kernel
theorem dX3_copyFrom_10 : decode cX3_copyFrom 10 = .ok (.getfield 16, 3) := by decide +kernel
theorem dX3_copyFrom_13 : decode cX3_copyFrom 13 = .ok (.putfield 16, 3) := by decide +kernel
theorem dX3_copyFrom_16 : decode cX3_copyFrom 16 = .ok (.aload_n 0, 1) := by decide +kernel
theorem dX3_copyFrom_17 : decode cX3_copyFrom 17 = .ok (.aload_n 1, 1) := by decide +kernel
theorem dX3_copyFrom_18 : decode cX3_copyFrom 18 = .ok (.getfield 20, 3) := by decide +kernel
theorem dX3_copyFrom_21 : decode cX3_copyFrom 21 = .ok (.putfield 20, 3) := by decide +kernel
theorem dX3_copyFrom_24 : decode cX3_copyFrom 24 = .ok (.aload_n 0, 1) := by decide +kernel
theorem dX3_copyFrom_25 : decode cX3_copyFrom 25 = .ok (.aload_n 1, 1) := by decide +kernel
theorem dX3_copyFrom_26 : decode cX3_copyFrom 26 = .ok (.getfield 23, 3) := by decide +kernel
theorem dX3_copyFrom_29 : decode cX3_copyFrom 29 = .ok (.putfield 23, 3) := by decide +kernel
theorem dX3_copyFrom_32 : decode cX3_copyFrom 32 = .ok (.aload_n 0, 1) := by decide +kernel
theorem dX3_copyFrom_33 : decode cX3_copyFrom 33 = .ok (.aload_n 1, 1) := by decide +kernel
theorem dX3_copyFrom_34 : decode cX3_copyFrom 34 = .ok (.getfield 26, 3) := by decide +kernel
theorem dX3_copyFrom_37 : decode cX3_copyFrom 37 = .ok (.putfield 26, 3) := by decide +kernel
theorem dX3_copyFrom_40 : decode cX3_copyFrom 40 = .ok (.return_, 1) := by decide +kernel
theorem dX4_init_0 : decode cX4_init 0 = .ok (.aload_n 0, 1) := by decide +kernel
theorem dX4_init_1 : decode cX4_init 1 = .ok (.invokespecial 3, 3) := by decide +kernel
theorem dX4_init_4 : decode cX4_init 4 = .ok (.aload_n 0, 1) := by decide +kernel
theorem dX4_init_5 : decode cX4_init 5 = .ok (.iload_n 1, 1) := by decide +kernel
theorem dX4_init_6 : decode cX4_init 6 = .ok (.putfield 9, 3) := by decide +kernel
theorem dX4_init_9 : decode cX4_init 9 = .ok (.aload_n 0, 1) := by decide +kernel
theorem dX4_init_10 : decode cX4_init 10 = .ok (.iload_n 2, 1) := by decide +kernel
theorem dX4_init_11 : decode cX4_init 11 = .ok (.putfield 15, 3) := by decide +kernel
theorem dX4_init_14 : decode cX4_init 14 = .ok (.aload_n 0, 1) := by decide +kernel
theorem dX4_init_15 : decode cX4_init 15 = .ok (.iconst (-1), 1) := by decide +kernel
theorem dX4_init_16 : decode cX4_init 16 = .ok (.putfield 18, 3) := by decide +kernel
theorem dX4_init_19 : decode cX4_init 19 = .ok (.return_, 1) := by decide +kernel
theorem dX4_copyFrom_0 : decode cX4_copyFrom 0 = .ok (.aload_n 0, 1) := by decide +kernel
theorem dX4_copyFrom_1 : decode cX4_copyFrom 1 = .ok (.aload_n 1, 1) := by decide +kernel
theorem dX4_copyFrom_2 : decode cX4_copyFrom 2 = .ok (.getfield 21, 3) := by decide +kernel
theorem dX4_copyFrom_5 : decode cX4_copyFrom 5 = .ok (.putfield 21, 3) := by decide +kernel
theorem dX4_copyFrom_8 : decode cX4_copyFrom 8 = .ok (.aload_n 0, 1) := by decide +kernel
theorem dX4_copyFrom_9 : decode cX4_copyFrom 9 = .ok (.aload_n 1, 1) := by decide +kernel
theorem dX4_copyFrom_10 : decode cX4_copyFrom 10 = .ok (.getfield 24, 3) := by decide +kernel
theorem dX4_copyFrom_13 : decode cX4_copyFrom 13 = .ok (.putfield 24, 3) := by decide +kernel
theorem dX4_copyFrom_16 : decode cX4_copyFrom 16 = .ok (.aload_n 0, 1) := by decide +kernel
theorem dX4_copyFrom_17 : decode cX4_copyFrom 17 = .ok (.aload_n 1, 1) := by decide +kernel
theorem dX4_copyFrom_18 : decode cX4_copyFrom 18 = .ok (.getfield 27, 3) := by decide +kernel
theorem dX4_copyFrom_21 : decode cX4_copyFrom 21 = .ok (.putfield 27, 3) := by decide +kernel
theorem dX4_copyFrom_24 : decode cX4_copyFrom 24 = .ok (.aload_n 0, 1) := by decide +kernel
theorem dX4_copyFrom_25 : decode cX4_copyFrom 25 = .ok (.aload_n 1, 1) := by decide +kernel
theorem dX4_copyFrom_26 : decode cX4_copyFrom 26 = .ok (.getfield 18, 3) := by decide +kernel
theorem dX4_copyFrom_29 : decode cX4_copyFrom 29 = .ok (.putfield 18, 3) := by decide +kernel
theorem dX4_copyFrom_32 : decode cX4_copyFrom 32 = .ok (.return_, 1) := by decide +kernel
theorem dX5_init_0 : decode cX5_init 0 = .ok (.aload_n 0, 1) := by decide +kernel
theorem dX5_init_1 : decode cX5_init 1 = .ok (.invokespecial 1, 3) := by decide +kernel
theorem dX5_init_4 : decode cX5_init 4 = .ok (.aload_n 0, 1) := by decide +kernel
theorem dX5_init_5 : decode cX5_init 5 = .ok (.new 7, 3) := by decide +kernel
theorem dX5_init_8 : decode cX5_init 8 = .ok (.dup, 1) := by decide +kernel
theorem dX5_init_9 : decode cX5_init 9 = .ok (.invokespecial 9, 3) := by decide +kernel
theorem dX5_init_12 : decode cX5_init 12 = .ok (.putfield 10, 3) := by decide +kernel
theorem dX5_init_15 : decode cX5_init 15 = .ok (.aload_n 0, 1) := by decide +kernel
theorem dX5_init_16 : decode cX5_init 16 = .ok (.bipush 6, 2) := by decide +kernel
theorem dX5_init_18 : decode cX5_init 18 = .ok (.anewarray 7, 3) := by decide +kernel
theorem dX5_init_21 : decode cX5_init 21 = .ok (.putfield 16, 3) := by decide +kernel
theorem dX5_init_24 : decode cX5_init 24 = .ok (.iconst 0, 1) := by decide +kernel
theorem dX5_init_25 : decode cX5_init 25 = .ok (.istore_n 1, 1) := by decide +kernel
theorem dX5_init_26 : decode cX5_init 26 = .ok (.iload_n 1, 1) := by decide +kernel
theorem dX5_init_27 : decode cX5_init 27 = .ok (.aload_n 0, 1) := by decide +kernel
theorem dX5_init_28 : decode cX5_init 28 = .ok (.getfield 16, 3) := by decide +kernel
theorem dX5_init_31 : decode cX5_init 31 = .ok (.arraylength, 1) := by decide +kernel
theorem dX5_init_32 : decode cX5_init 32 = .ok (.if_icmp .ge 22, 3) := by decide +kernel
theorem dX5_init_35 : decode cX5_init 35 = .ok (.aload_n 0, 1) := by decide +kernel
theorem dX5_init_36 : decode cX5_init 36 = .ok (.getfield 16, 3) := by decide +kernel
theorem dX5_init_39 : decode cX5_init 39 = .ok (.iload_n 1, 1) := by decide +kernel
theorem dX5_init_40 : decode cX5_init 40 = .ok (.new 7, 3) := by decide +kernel
theorem dX5_init_43 : decode cX5_init 43 = .ok (.dup, 1) := by decide +kernel
theorem dX5_init_44 : decode cX5_init 44 = .ok (.invokespecial 9, 3) := by decide +kernel
theorem dX5_init_47 : decode cX5_init 47 = .ok (.aastore, 1) := by decide +kernel
theorem dX5_init_48 : decode cX5_init 48 = .ok (.iinc 1 1, 3) := by decide +kernel
theorem dX5_init_51 : decode cX5_init 51 = .ok (.goto (-25), 3) := by decide +kernel
theorem dX5_init_54 : decode cX5_init 54 = .ok (.aload_n 0, 1) := by decide +kernel
theorem dX5_init_55 : decode cX5_init 55 = .ok (.bipush 60, 2) := by decide +kernel
theorem dX5_init_57 : decode cX5_init 57 = .ok (.newarray .int, 2) := by decide +kernel
theorem dX5_init_59 : decode cX5_init 59 = .ok (.putfield 20, 3) := by decide +kernel
theorem dX5_init_62 : decode cX5_init 62 = .ok (.aload_n 0, 1) := by decide +kernel
theorem dX5_init_63 : decode cX5_init 63 = .ok (.new 24, 3) := by decide +kernel
theorem dX5_init_66 : decode cX5_init 66 = .ok (.dup, 1) := by decide +kernel
theorem dX5_init_67 : decode cX5_init 67 = .ok (.invokespecial 26, 3) := by decide +kernel
theorem dX5_init_70 : decode cX5_init 70 = .ok (.putfield 27, 3) := by decide +kernel
theorem dX5_init_73 : decode cX5_init 73 = .ok (.return_, 1) := by decide +kernel
theorem dX5_load_0 : decode cX5_load 0 = .ok (.aload_n 0, 1) := by decide +kernel
theorem dX5_load_1 : decode cX5_load 1 = .ok (.iload_n 1, 1) := by decide +kernel
theorem dX5_load_2 : decode cX5_load 2 = .ok (.iconst 0, 1) := by decide +kernel
theorem dX5_load_3 : decode cX5_load 3 = .ok (.invokevirtual 31, 3) := by decide +kernel
theorem dX5_load_6 : decode cX5_load 6 = .ok (.astore_n 3, 1) := by decide +kernel
theorem dX5_load_7 : decode cX5_load 7 = .ok (.aload_n 0, 1) := by decide +kernel
theorem dX5_load_8 : decode cX5_load 8 = .ok (.iload_n 2, 1) := by decide +kernel
theorem dX5_load_9 : decode cX5_load 9 = .ok (.invokevirtual 35, 3) := by decide +kernel
theorem dX5_load_12 : decode cX5_load 12 = .ok (.aload_n 0, 1) := by decide +kernel
theorem dX5_load_13 : decode cX5_load 13 = .ok (.getfield 10, 3) := by decide +kernel
theorem dX5_load_16 : decode cX5_load 16 = .ok (.aload_n 3, 1) := by decide +kernel
theorem dX5_load_17 : decode cX5_load 17 = .ok (.iload_n 2, 1) := by decide +kernel
theorem dX5_load_18 : decode cX5_load 18 = .ok (.invokevirtual 39, 3) := by decide +kernel
theorem dX5_load_21 : decode cX5_load 21 = .ok (.ifCond .ne 13, 3) := by decide +kernel
theorem dX5_load_24 : decode cX5_load 24 = .ok (.new 43, 3) := by decide +kernel
theorem dX5_load_27 : decode cX5_load 27 = .ok (.dup, 1) := by decide +kernel
theorem dX5_load_28 : decode cX5_load 28 = .ok (.ldc 45, 2) := by decide +kernel
theorem dX5_load_30 : decode cX5_load 30 = .ok (.invokespecial 47, 3) := by decide +kernel
theorem dX5_load_33 : decode cX5_load 33 = .ok (.athrow, 1) := by decide +kernel
theorem dX5_load_34 : decode cX5_load 34 = .ok (.aload_n 0, 1) := by decide +kernel
theorem dX5_load_35 : decode cX5_load 35 = .ok (.invokevirtual 50, 3) := by decide +kernel
theorem dX5_load_38 : decode cX5_load 38 = .ok (.aload_n 0, 1) := by decide +kernel
theorem dX5_load_39 : decode cX5_load 39 = .ok (.getfield 10, 3) := by decide +kernel
theorem dX5_load_42 : decode cX5_load 42 = .ok (.aload_n 3, 1) := by decide +kernel
theorem dX5_load_43 : decode cX5_load 43 = .ok (.iload_n 2, 1) := by decide +kernel
theorem dX5_load_44 : decode cX5_load 44 = .ok (.invokevirtual 53, 3) := by decide +kernel
theorem dX5_load_47 : decode cX5_load 47 = .ok (.aload_n 3, 1) := by decide +kernel
theorem dX5_load_48 : decode cX5_load 48 = .ok (.getfield 57, 3) := by decide +kernel
theorem dX5_load_51 : decode cX5_load 51 = .ok (.ireturn, 1) := by decide +kernel
theorem dX5_quote_0 : decode cX5_quote 0 = .ok (.iload_n 1, 1) := by decide +kernel
theorem dX5_quote_1 : decode cX5_quote 1 = .ok (.ifCond .le 8, 3) := by decide +kernel
theorem dX5_quote_4 : decode cX5_quote 4 = .ok (.iload_n 1, 1) := by decide +kernel
theorem dX5_quote_5 : decode cX5_quote 5 = .ok (.iconst 4, 1) := by decide +kernel
theorem dX5_quote_6 : decode cX5_quote 6 = .ok (.if_icmp .lt 13, 3) := by decide +kernel
theorem dX5_quote_9 : decode cX5_quote 9 = .ok (.new 63, 3) := by decide +kernel
theorem dX5_quote_12 : decode cX5_quote 12 = .ok (.dup, 1) := by decide +kernel
theorem dX5_quote_13 : decode cX5_quote 13 = .ok (.ldc 65, 2) := by decide +kernel
theorem dX5_quote_15 : decode cX5_quote 15 = .ok (.invokespecial 67, 3) := by decide +kernel
theorem dX5_quote_18 : decode cX5_quote 18 = .ok (.athrow, 1) := by decide +kernel
theorem dX5_quote_19 : decode cX5_quote 19 = .ok (.iload_n 2, 1) := by decide +kernel
theorem dX5_quote_20 : decode cX5_quote 20 = .ok (.bipush 100, 2) := by decide +kernel
theorem dX5_quote_22 : decode cX5_quote 22 = .ok (.if_icmp .lt 10, 3) := by decide +kernel
theorem dX5_quote_25 : decode cX5_quote 25 = .ok (.iload_n 2, 1) := by decide +kernel
theorem dX5_quote_26 : decode cX5_quote 26 = .ok (.sipush 2000, 3) := by decide +kernel
theorem dX5_quote_29 : decode cX5_quote 29 = .ok (.if_icmp .le 13, 3) := by decide +kernel
theorem dX5_quote_32 : decode cX5_quote 32 = .ok (.new 68, 3) := by decide +kernel
theorem dX5_quote_35 : decode cX5_quote 35 = .ok (.dup, 1) := by decide +kernel
theorem dX5_quote_36 : decode cX5_quote 36 = .ok (.ldc 70, 2) := by decide +kernel
theorem dX5_quote_38 : decode cX5_quote 38 = .ok (.invokespecial 72, 3) := by decide +kernel
theorem dX5_quote_41 : decode cX5_quote 41 = .ok (.athrow, 1) := by decide +kernel
theorem dX5_quote_42 : decode cX5_quote 42 = .ok (.aload_n 0, 1) := by decide +kernel
theorem dX5_quote_43 : decode cX5_quote 43 = .ok (.invokevirtual 50, 3) := by decide +kernel
theorem dX5_quote_46 : decode cX5_quote 46 = .ok (.aload_n 0, 1) := by decide +kernel
theorem dX5_quote_47 : decode cX5_quote 47 = .ok (.getfield 10, 3) := by decide +kernel
theorem dX5_quote_50 : decode cX5_quote 50 = .ok (.getfield 73, 3) := by decide +kernel
theorem dX5_quote_53 : decode cX5_quote 53 = .ok (.iload_n 1, 1) := by decide +kernel
theorem dX5_quote_54 : decode cX5_quote 54 = .ok (.iaload, 1) := by decide +kernel
theorem dX5_quote_55 : decode cX5_quote 55 = .ok (.istore_n 3, 1) := by decide +kernel
theorem dX5_quote_56 : decode cX5_quote 56 = .ok (.aload_n 0, 1) := by decide +kernel
theorem dX5_quote_57 : decode cX5_quote 57 = .ok (.getfield 10, 3) := by decide +kernel
theorem dX5_quote_60 : decode cX5_quote 60 = .ok (.getfield 73, 3) := by decide +kernel
theorem dX5_quote_63 : decode cX5_quote 63 = .ok (.iload_n 1, 1) := by decide +kernel
theorem dX5_quote_64 : decode cX5_quote 64 = .ok (.iload_n 2, 1) := by decide +kernel
theorem dX5_quote_65 : decode cX5_quote 65 = .ok (.iastore, 1) := by decide +kernel
theorem dX5_quote_66 : decode cX5_quote 66 = .ok (.iload_n 3, 1) := by decide +kernel
theorem dX5_quote_67 : decode cX5_quote 67 = .ok (.ireturn, 1) := by decide +kernel
theorem dX5_lock_0 : decode cX5_lock 0 = .ok (.aload_n 0, 1) := by decide +kernel
theorem dX5_lock_1 : decode cX5_lock 1 = .ok (.iload_n 1, 1) := by decide +kernel
theorem dX5_lock_2 : decode cX5_lock 2 = .ok (.iload_n 2, 1) := by decide +kernel
theorem dX5_lock_3 : decode cX5_lock 3 = .ok (.invokevirtual 76, 3) := by decide +kernel
theorem dX5_lock_6 : decode cX5_lock 6 = .ok (.astore_n 3, 1) := by decide +kernel
theorem dX5_lock_7 : decode cX5_lock 7 = .ok (.aload_n 0, 1) := by decide +kernel
theorem dX5_lock_8 : decode cX5_lock 8 = .ok (.invokevirtual 50, 3) := by decide +kernel
theorem dX5_lock_11 : decode cX5_lock 11 = .ok (.aload_n 3, 1) := by decide +kernel
theorem dX5_lock_12 : decode cX5_lock 12 = .ok (.aload_n 0, 1) := by decide +kernel
theorem dX5_lock_13 : decode cX5_lock 13 = .ok (.getfield 10, 3) := by decide +kernel
theorem dX5_lock_16 : decode cX5_lock 16 = .ok (.getfield 73, 3) := by decide +kernel
theorem dX5_lock_19 : decode cX5_lock 19 = .ok (.aload_n 3, 1) := by decide +kernel
theorem dX5_lock_20 : decode cX5_lock 20 = .ok (.getfield 79, 3) := by decide +kernel
theorem dX5_lock_23 : decode cX5_lock 23 = .ok (.iaload, 1) := by decide +kernel
theorem dX5_lock_24 : decode cX5_lock 24 = .ok (.putfield 82, 3) := by decide +kernel
theorem dX5_lock_27 : decode cX5_lock 27 = .ok (.aload_n 3, 1) := by decide +kernel
theorem dX5_lock_28 : decode cX5_lock 28 = .ok (.aload_n 0, 1) := by decide +kernel
theorem dX5_lock_29 : decode cX5_lock 29 = .ok (.getfield 10, 3) := by decide +kernel
theorem dX5_lock_32 : decode cX5_lock 32 = .ok (.getfield 85, 3) := by decide +kernel
theorem dX5_lock_35 : decode cX5_lock 35 = .ok (.aload_n 0, 1) := by decide +kernel
theorem dX5_lock_36 : decode cX5_lock 36 = .ok (.getfield 10, 3) := by decide +kernel
theorem dX5_lock_39 : decode cX5_lock 39 = .ok (.getfield 88, 3) := by decide +kernel
theorem dX5_lock_42 : decode cX5_lock 42 = .ok (.iconst 0, 1) := by decide +kernel
theorem dX5_lock_43 : decode cX5_lock 43 = .ok (.iaload, 1) := by decide +kernel
theorem dX5_lock_44 : decode cX5_lock 44 = .ok (.iadd, 1) := by decide +kernel
theorem dX5_lock_45 : decode cX5_lock 45 = .ok (.putfield 91, 3) := by decide +kernel
theorem dX5_lock_48 : decode cX5_lock 48 = .ok (.aload_n 3, 1) := by decide +kernel
theorem dX5_lock_49 : decode cX5_lock 49 = .ok (.getfield 91, 3) := by decide +kernel
theorem dX5_lock_52 : decode cX5_lock 52 = .ok (.ireturn, 1) := by decide +kernel
theorem dX5_exchange_0 : decode cX5_exchange 0 = .ok (.aload_n 0, 1) := by decide +kernel
theorem dX5_exchange_1 : decode cX5_exchange 1 = .ok (.iload_n 1, 1) := by decide +kernel
theorem dX5_exchange_2 : decode cX5_exchange 2 = .ok (.iload_n 2, 1) := by decide +kernel
theorem dX5_exchange_3 : decode cX5_exchange 3 = .ok (.invokevirtual 31, 3) := by decide +kernel
theorem dX5_exchange_6 : decode cX5_exchange 6 = .ok (.astore 5, 2) := by decide +kernel
theorem dX5_exchange_8 : decode cX5_exchange 8 = .ok (.aload_n 0, 1) := by decide +kernel
theorem dX5_exchange_9 : decode cX5_exchange 9 = .ok (.iload_n 1, 1) := by decide +kernel
theorem dX5_exchange_10 : decode cX5_exchange 10 = .ok (.iload_n 3, 1) := by decide +kernel
theorem dX5_exchange_11 : decode cX5_exchange 11 = .ok (.invokevirtual 31, 3) := by decide +kernel
theorem dX5_exchange_14 : decode cX5_exchange 14 = .ok (.astore 6, 2) := by decide +kernel
theorem dX5_exchange_16 : decode cX5_exchange 16 = .ok (.aload_n 0, 1) := by decide +kernel
theorem dX5_exchange_17 : decode cX5_exchange 17 = .ok (.iload 4, 2) := by decide +kernel
theorem dX5_exchange_19 : decode cX5_exchange 19 = .ok (.invokevirtual 35, 3) := by decide +kernel
theorem dX5_exchange_22 : decode cX5_exchange 22 = .ok (.aload_n 0, 1) := by decide +kernel
theorem dX5_exchange_23 : decode cX5_exchange 23 = .ok (.getfield 10, 3) := by decide +kernel
theorem dX5_exchange_26 : decode cX5_exchange 26 = .ok (.aload 5, 2) := by decide +kernel
theorem dX5_exchange_28 : decode cX5_exchange 28 = .ok (.aload 6, 2) := by decide +kernel
theorem dX5_exchange_30 : decode cX5_exchange 30 = .ok (.iload 4, 2) := by decide +kernel
theorem dX5_exchange_32 : decode cX5_exchange 32 = .ok (.invokevirtual 94, 3) := by decide +kernel
theorem dX5_exchange_35 : decode cX5_exchange 35 = .ok (.ifCond .eq 13, 3) := by decide +kernel
theorem dX5_exchange_38 : decode cX5_exchange 38 = .ok (.new 43, 3) := by decide +kernel
theorem dX5_exchange_41 : decode cX5_exchange 41 = .ok (.dup, 1) := by decide +kernel
theorem dX5_exchange_42 : decode cX5_exchange 42 = .ok (.ldc 98, 2) := by decide +kernel
theorem dX5_exchange_44 : decode cX5_exchange 44 = .ok (.invokespecial 47, 3) := by decide +kernel
theorem dX5_exchange_47 : decode cX5_exchange 47 = .ok (.athrow, 1) := by decide +kernel
theorem dX5_exchange_48 : decode cX5_exchange 48 = .ok (.aload_n 0, 1) := by decide +kernel
theorem dX5_exchange_49 : decode cX5_exchange 49 = .ok (.invokevirtual 50, 3) := by decide +kernel
theorem dX5_exchange_52 : decode cX5_exchange 52 = .ok (.aload_n 0, 1) := by decide +kernel
theorem dX5_exchange_53 : decode cX5_exchange 53 = .ok (.getfield 10, 3) := by decide +kernel
theorem dX5_exchange_56 : decode cX5_exchange 56 = .ok (.aload 5, 2) := by decide +kernel
theorem dX5_exchange_58 : decode cX5_exchange 58 = .ok (.aload 6, 2) := by decide +kernel
theorem dX5_exchange_60 : decode cX5_exchange 60 = .ok (.iload 4, 2) := by decide +kernel
theorem dX5_exchange_62 : decode cX5_exchange 62 = .ok (.invokevirtual 100, 3) := by decide +kernel
theorem dX5_exchange_65 : decode cX5_exchange 65 = .ok (.ireturn, 1) := by decide +kernel
theorem dX5_hold_0 : decode cX5_hold 0 = .ok (.aload_n 0, 1) := by decide +kernel
theorem dX5_hold_1 : decode cX5_hold 1 = .ok (.iload_n 1, 1) := by decide +kernel
theorem dX5_hold_2 : decode cX5_hold 2 = .ok (.iload_n 2, 1) := by decide +kernel
theorem dX5_hold_3 : decode cX5_hold 3 = .ok (.invokevirtual 31, 3) := by decide +kernel
theorem dX5_hold_6 : decode cX5_hold 6 = .ok (.astore 4, 2) := by decide +kernel
theorem dX5_hold_8 : decode cX5_hold 8 = .ok (.aload_n 0, 1) := by decide +kernel
theorem dX5_hold_9 : decode cX5_hold 9 = .ok (.iload_n 3, 1) := by decide +kernel
theorem dX5_hold_10 : decode cX5_hold 10 = .ok (.invokevirtual 35, 3) := by decide +kernel
theorem dX5_hold_13 : decode cX5_hold 13 = .ok (.aload_n 0, 1) := by decide +kernel
theorem dX5_hold_14 : decode cX5_hold 14 = .ok (.getfield 10, 3) := by decide +kernel
theorem dX5_hold_17 : decode cX5_hold 17 = .ok (.aload 4, 2) := by decide +kernel
theorem dX5_hold_19 : decode cX5_hold 19 = .ok (.iload_n 3, 1) := by decide +kernel
theorem dX5_hold_20 : decode cX5_hold 20 = .ok (.invokevirtual 103, 3) := by decide +kernel
theorem dX5_hold_23 : decode cX5_hold 23 = .ok (.ifCond .eq 13, 3) := by decide +kernel
theorem dX5_hold_26 : decode cX5_hold 26 = .ok (.new 43, 3) := by decide +kernel
theorem dX5_hold_29 : decode cX5_hold 29 = .ok (.dup, 1) := by decide +kernel
theorem dX5_hold_30 : decode cX5_hold 30 = .ok (.ldc 107, 2) := by decide +kernel
theorem dX5_hold_32 : decode cX5_hold 32 = .ok (.invokespecial 47, 3) := by decide +kernel
theorem dX5_hold_35 : decode cX5_hold 35 = .ok (.athrow, 1) := by decide +kernel
theorem dX5_hold_36 : decode cX5_hold 36 = .ok (.aload_n 0, 1) := by decide +kernel
theorem dX5_hold_37 : decode cX5_hold 37 = .ok (.invokevirtual 50, 3) := by decide +kernel
theorem dX5_hold_40 : decode cX5_hold 40 = .ok (.aload_n 0, 1) := by decide +kernel
theorem dX5_hold_41 : decode cX5_hold 41 = .ok (.getfield 10, 3) := by decide +kernel
theorem dX5_hold_44 : decode cX5_hold 44 = .ok (.aload 4, 2) := by decide +kernel
theorem dX5_hold_46 : decode cX5_hold 46 = .ok (.iload_n 3, 1) := by decide +kernel
theorem dX5_hold_47 : decode cX5_hold 47 = .ok (.invokevirtual 109, 3) := by decide +kernel
theorem dX5_hold_50 : decode cX5_hold 50 = .ok (.ireturn, 1) := by decide +kernel
theorem dX5_pay_0 : decode cX5_pay 0 = .ok (.aload_n 0, 1) := by decide +kernel
theorem dX5_pay_1 : decode cX5_pay 1 = .ok (.iload_n 1, 1) := by decide +kernel
theorem dX5_pay_2 : decode cX5_pay 2 = .ok (.invokevirtual 112, 3) := by decide +kernel
theorem dX5_pay_5 : decode cX5_pay 5 = .ok (.astore_n 3, 1) := by decide +kernel
theorem dX5_pay_6 : decode cX5_pay 6 = .ok (.iload_n 2, 1) := by decide +kernel
theorem dX5_pay_7 : decode cX5_pay 7 = .ok (.iconst 1, 1) := by decide +kernel
theorem dX5_pay_8 : decode cX5_pay 8 = .ok (.if_icmp .ge 13, 3) := by decide +kernel
theorem dX5_pay_11 : decode cX5_pay 11 = .ok (.new 68, 3) := by decide +kernel
theorem dX5_pay_14 : decode cX5_pay 14 = .ok (.dup, 1) := by decide +kernel
theorem dX5_pay_15 : decode cX5_pay 15 = .ok (.ldc 116, 2) := by decide +kernel
theorem dX5_pay_17 : decode cX5_pay 17 = .ok (.invokespecial 72, 3) := by decide +kernel
theorem dX5_pay_20 : decode cX5_pay 20 = .ok (.athrow, 1) := by decide +kernel
theorem dX5_pay_21 : decode cX5_pay 21 = .ok (.iload_n 2, 1) := by decide +kernel
theorem dX5_pay_22 : decode cX5_pay 22 = .ok (.aload_n 3, 1) := by decide +kernel
theorem dX5_pay_23 : decode cX5_pay 23 = .ok (.getfield 118, 3) := by decide +kernel
theorem dX5_pay_26 : decode cX5_pay 26 = .ok (.if_icmp .gt 15, 3) := by decide +kernel
theorem dX5_pay_29 : decode cX5_pay 29 = .ok (.aload_n 0, 1) := by decide +kernel
theorem dX5_pay_30 : decode cX5_pay 30 = .ok (.getfield 10, 3) := by decide +kernel
theorem dX5_pay_33 : decode cX5_pay 33 = .ok (.getfield 123, 3) := by decide +kernel
theorem dX5_pay_36 : decode cX5_pay 36 = .ok (.bipush 12, 2) := by decide +kernel
theorem dX5_pay_38 : decode cX5_pay 38 = .ok (.if_icmp .lt 13, 3) := by decide +kernel
theorem dX5_pay_41 : decode cX5_pay 41 = .ok (.new 43, 3) := by decide +kernel
theorem dX5_pay_44 : decode cX5_pay 44 = .ok (.dup, 1) := by decide +kernel
theorem dX5_pay_45 : decode cX5_pay 45 = .ok (.ldc 126, 2) := by decide +kernel
theorem dX5_pay_47 : decode cX5_pay 47 = .ok (.invokespecial 47, 3) := by decide +kernel
theorem dX5_pay_50 : decode cX5_pay 50 = .ok (.athrow, 1) := by decide +kernel
theorem dX5_pay_51 : decode cX5_pay 51 = .ok (.aload_n 0, 1) := by decide +kernel
theorem dX5_pay_52 : decode cX5_pay 52 = .ok (.invokevirtual 50, 3) := by decide +kernel
theorem dX5_pay_55 : decode cX5_pay 55 = .ok (.aload_n 0, 1) := by decide +kernel
theorem dX5_pay_56 : decode cX5_pay 56 = .ok (.aload_n 3, 1) := by decide +kernel
theorem dX5_pay_57 : decode cX5_pay 57 = .ok (.getfield 128, 3) := by decide +kernel
theorem dX5_pay_60 : decode cX5_pay 60 = .ok (.aload_n 3, 1) := by decide +kernel
theorem dX5_pay_61 : decode cX5_pay 61 = .ok (.getfield 131, 3) := by decide +kernel
theorem dX5_pay_64 : decode cX5_pay 64 = .ok (.invokevirtual 31, 3) := by decide +kernel
theorem dX5_pay_67 : decode cX5_pay 67 = .ok (.astore 4, 2) := by decide +kernel
theorem dX5_pay_69 : decode cX5_pay 69 = .ok (.aload 4, 2) := by decide +kernel
theorem dX5_pay_71 : decode cX5_pay 71 = .ok (.dup, 1) := by decide +kernel
theorem dX5_pay_72 : decode cX5_pay 72 = .ok (.getfield 57, 3) := by decide +kernel
theorem dX5_pay_75 : decode cX5_pay 75 = .ok (.iload_n 2, 1) := by decide +kernel
theorem dX5_pay_76 : decode cX5_pay 76 = .ok (.isub, 1) := by decide +kernel
theorem dX5_pay_77 : decode cX5_pay 77 = .ok (.putfield 57, 3) := by decide +kernel
theorem dX5_pay_80 : decode cX5_pay 80 = .ok (.aload_n 0, 1) := by decide +kernel
theorem dX5_pay_81 : decode cX5_pay 81 = .ok (.getfield 10, 3) := by decide +kernel
theorem dX5_pay_84 : decode cX5_pay 84 = .ok (.iload_n 1, 1) := by decide +kernel
theorem dX5_pay_85 : decode cX5_pay 85 = .ok (.invokevirtual 132, 3) := by decide +kernel
theorem dX5_pay_88 : decode cX5_pay 88 = .ok (.aload_n 0, 1) := by decide +kernel
theorem dX5_pay_89 : decode cX5_pay 89 = .ok (.getfield 10, 3) := by decide +kernel
theorem dX5_pay_92 : decode cX5_pay 92 = .ok (.aload 4, 2) := by decide +kernel
theorem dX5_pay_94 : decode cX5_pay 94 = .ok (.iload_n 2, 1) := by decide +kernel
theorem dX5_pay_95 : decode cX5_pay 95 = .ok (.invokevirtual 135, 3) := by decide +kernel
theorem dX5_pay_98 : decode cX5_pay 98 = .ok (.ireturn, 1) := by decide +kernel
theorem dX5_letGo_0 : decode cX5_letGo 0 = .ok (.aload_n 0, 1) := by decide +kernel
theorem dX5_letGo_1 : decode cX5_letGo 1 = .ok (.iload_n 1, 1) := by decide +kernel
theorem dX5_letGo_2 : decode cX5_letGo 2 = .ok (.invokevirtual 112, 3) := by decide +kernel
theorem dX5_letGo_5 : decode cX5_letGo 5 = .ok (.getfield 118, 3) := by decide +kernel
theorem dX5_letGo_8 : decode cX5_letGo 8 = .ok (.istore_n 2, 1) := by decide +kernel
