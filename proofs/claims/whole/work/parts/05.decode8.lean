theorem dX6_held_23 : decode cX6_held 23 = .ok (.goto 4, 3) := by decide +kernel
theorem dX6_held_26 : decode cX6_held 26 = .ok (.iconst 2, 1) := by decide +kernel
theorem dX6_held_27 : decode cX6_held 27 = .ok (.putfield 22, 3) := by decide +kernel
theorem dX6_held_30 : decode cX6_held 30 = .ok (.aload_n 0, 1) := by decide +kernel
theorem dX6_held_31 : decode cX6_held 31 = .ok (.getfield 22, 3) := by decide +kernel
theorem dX6_held_34 : decode cX6_held 34 = .ok (.ifCond .le 7, 3) := by decide +kernel
theorem dX6_held_37 : decode cX6_held 37 = .ok (.iconst 0, 1) := by decide +kernel
theorem dX6_held_38 : decode cX6_held 38 = .ok (.goto 9, 3) := by decide +kernel
theorem dX6_held_41 : decode cX6_held 41 = .ok (.aload_n 0, 1) := by decide +kernel
theorem dX6_held_42 : decode cX6_held 42 = .ok (.iload_n 1, 1) := by decide +kernel
theorem dX6_held_43 : decode cX6_held 43 = .ok (.iload_n 2, 1) := by decide +kernel
theorem dX6_held_44 : decode cX6_held 44 = .ok (.invokevirtual 52, 3) := by decide +kernel
theorem dX6_held_47 : decode cX6_held 47 = .ok (.ireturn, 1) := by decide +kernel
theorem dX6_paymentNow_0 : decode cX6_paymentNow 0 = .ok (.iload_n 2, 1) := by decide +kernel
theorem dX6_paymentNow_1 : decode cX6_paymentNow 1 = .ok (.iconst 5, 1) := by decide +kernel
theorem dX6_paymentNow_2 : decode cX6_paymentNow 2 = .ok (.if_icmp .ge 12, 3) := by decide +kernel
theorem dX6_paymentNow_5 : decode cX6_paymentNow 5 = .ok (.aload_n 0, 1) := by decide +kernel
theorem dX6_paymentNow_6 : decode cX6_paymentNow 6 = .ok (.iload_n 1, 1) := by decide +kernel
theorem dX6_paymentNow_7 : decode cX6_paymentNow 7 = .ok (.iload_n 2, 1) := by decide +kernel
theorem dX6_paymentNow_8 : decode cX6_paymentNow 8 = .ok (.invokevirtual 127, 3) := by decide +kernel
theorem dX6_paymentNow_11 : decode cX6_paymentNow 11 = .ok (.goto 16, 3) := by decide +kernel
theorem dX6_paymentNow_14 : decode cX6_paymentNow 14 = .ok (.aload_n 0, 1) := by decide +kernel
theorem dX6_paymentNow_15 : decode cX6_paymentNow 15 = .ok (.iload_n 1, 1) := by decide +kernel
theorem dX6_paymentNow_16 : decode cX6_paymentNow 16 = .ok (.invokevirtual 133, 3) := by decide +kernel
theorem dX6_paymentNow_19 : decode cX6_paymentNow 19 = .ok (.ifCond .eq 7, 3) := by decide +kernel
theorem dX6_paymentNow_22 : decode cX6_paymentNow 22 = .ok (.iconst 1, 1) := by decide +kernel
theorem dX6_paymentNow_23 : decode cX6_paymentNow 23 = .ok (.goto 4, 3) := by decide +kernel
theorem dX6_paymentNow_26 : decode cX6_paymentNow 26 = .ok (.iconst 0, 1) := by decide +kernel
theorem dX6_paymentNow_27 : decode cX6_paymentNow 27 = .ok (.ireturn, 1) := by decide +kernel
theorem dX6_payment_0 : decode cX6_payment 0 = .ok (.aload_n 0, 1) := by decide +kernel
theorem dX6_payment_1 : decode cX6_payment 1 = .ok (.aload_n 0, 1) := by decide +kernel
theorem dX6_payment_2 : decode cX6_payment 2 = .ok (.iload_n 1, 1) := by decide +kernel
theorem dX6_payment_3 : decode cX6_payment 3 = .ok (.invokevirtual 130, 3) := by decide +kernel
theorem dX6_payment_6 : decode cX6_payment 6 = .ok (.ifCond .ne 7, 3) := by decide +kernel
theorem dX6_payment_9 : decode cX6_payment 9 = .ok (.iconst 1, 1) := by decide +kernel
theorem dX6_payment_10 : decode cX6_payment 10 = .ok (.goto 17, 3) := by decide +kernel
theorem dX6_payment_13 : decode cX6_payment 13 = .ok (.iload_n 2, 1) := by decide +kernel
theorem dX6_payment_14 : decode cX6_payment 14 = .ok (.iconst 0, 1) := by decide +kernel
theorem dX6_payment_15 : decode cX6_payment 15 = .ok (.iconst 5, 1) := by decide +kernel
theorem dX6_payment_16 : decode cX6_payment 16 = .ok (.invokestatic 29, 3) := by decide +kernel
theorem dX6_payment_19 : decode cX6_payment 19 = .ok (.ifCond .eq 7, 3) := by decide +kernel
theorem dX6_payment_22 : decode cX6_payment 22 = .ok (.iconst 0, 1) := by decide +kernel
theorem dX6_payment_23 : decode cX6_payment 23 = .ok (.goto 4, 3) := by decide +kernel
theorem dX6_payment_26 : decode cX6_payment 26 = .ok (.iconst 2, 1) := by decide +kernel
theorem dX6_payment_27 : decode cX6_payment 27 = .ok (.putfield 22, 3) := by decide +kernel
theorem dX6_payment_30 : decode cX6_payment 30 = .ok (.aload_n 0, 1) := by decide +kernel
theorem dX6_payment_31 : decode cX6_payment 31 = .ok (.getfield 22, 3) := by decide +kernel
theorem dX6_payment_34 : decode cX6_payment 34 = .ok (.ifCond .le 7, 3) := by decide +kernel
theorem dX6_payment_37 : decode cX6_payment 37 = .ok (.iconst 0, 1) := by decide +kernel
theorem dX6_payment_38 : decode cX6_payment 38 = .ok (.goto 9, 3) := by decide +kernel
theorem dX6_payment_41 : decode cX6_payment 41 = .ok (.aload_n 0, 1) := by decide +kernel
theorem dX6_payment_42 : decode cX6_payment 42 = .ok (.iload_n 1, 1) := by decide +kernel
theorem dX6_payment_43 : decode cX6_payment 43 = .ok (.iload_n 2, 1) := by decide +kernel
theorem dX6_payment_44 : decode cX6_payment 44 = .ok (.invokevirtual 197, 3) := by decide +kernel
theorem dX6_payment_47 : decode cX6_payment 47 = .ok (.ireturn, 1) := by decide +kernel
theorem dX6_disputed_0 : decode cX6_disputed 0 = .ok (.iconst 0, 1) := by decide +kernel
theorem dX6_disputed_1 : decode cX6_disputed 1 = .ok (.istore_n 1, 1) := by decide +kernel
theorem dX6_disputed_2 : decode cX6_disputed 2 = .ok (.iconst 0, 1) := by decide +kernel
theorem dX6_disputed_3 : decode cX6_disputed 3 = .ok (.istore_n 2, 1) := by decide +kernel
theorem dX6_disputed_4 : decode cX6_disputed 4 = .ok (.iload_n 2, 1) := by decide +kernel
theorem dX6_disputed_5 : decode cX6_disputed 5 = .ok (.aload_n 0, 1) := by decide +kernel
theorem dX6_disputed_6 : decode cX6_disputed 6 = .ok (.getfield 7, 3) := by decide +kernel
theorem dX6_disputed_9 : decode cX6_disputed 9 = .ok (.bipush 9, 2) := by decide +kernel
theorem dX6_disputed_11 : decode cX6_disputed 11 = .ok (.iaload, 1) := by decide +kernel
theorem dX6_disputed_12 : decode cX6_disputed 12 = .ok (.if_icmp .ge 27, 3) := by decide +kernel
theorem dX6_disputed_15 : decode cX6_disputed 15 = .ok (.iload_n 1, 1) := by decide +kernel
theorem dX6_disputed_16 : decode cX6_disputed 16 = .ok (.aload_n 0, 1) := by decide +kernel
theorem dX6_disputed_17 : decode cX6_disputed 17 = .ok (.iload_n 2, 1) := by decide +kernel
theorem dX6_disputed_18 : decode cX6_disputed 18 = .ok (.iconst 4, 1) := by decide +kernel
theorem dX6_disputed_19 : decode cX6_disputed 19 = .ok (.invokevirtual 127, 3) := by decide +kernel
theorem dX6_disputed_22 : decode cX6_disputed 22 = .ok (.iconst 1, 1) := by decide +kernel
theorem dX6_disputed_23 : decode cX6_disputed 23 = .ok (.if_icmp .ne 7, 3) := by decide +kernel
theorem dX6_disputed_26 : decode cX6_disputed 26 = .ok (.iconst 1, 1) := by decide +kernel
theorem dX6_disputed_27 : decode cX6_disputed 27 = .ok (.goto 4, 3) := by decide +kernel
theorem dX6_disputed_30 : decode cX6_disputed 30 = .ok (.iconst 0, 1) := by decide +kernel
theorem dX6_disputed_31 : decode cX6_disputed 31 = .ok (.iadd, 1) := by decide +kernel
theorem dX6_disputed_32 : decode cX6_disputed 32 = .ok (.istore_n 1, 1) := by decide +kernel
theorem dX6_disputed_33 : decode cX6_disputed 33 = .ok (.iinc 2 1, 3) := by decide +kernel
theorem dX6_disputed_36 : decode cX6_disputed 36 = .ok (.goto (-32), 3) := by decide +kernel
theorem dX6_disputed_39 : decode cX6_disputed 39 = .ok (.iload_n 1, 1) := by decide +kernel
theorem dX6_disputed_40 : decode cX6_disputed 40 = .ok (.ireturn, 1) := by decide +kernel
theorem dX6_counted_0 : decode cX6_counted 0 = .ok (.iload_n 1, 1) := by decide +kernel
theorem dX6_counted_1 : decode cX6_counted 1 = .ok (.tableswitch 120 0 13 #[71, 78, 78, 90, 120, 120, 120, 120, 120, 95, 95, 95, 107, 115], 71) := by decide +kernel
theorem dX6_counted_72 : decode cX6_counted 72 = .ok (.aload_n 0, 1) := by decide +kernel
theorem dX6_counted_73 : decode cX6_counted 73 = .ok (.getfield 7, 3) := by decide +kernel
theorem dX6_counted_76 : decode cX6_counted 76 = .ok (.iconst 4, 1) := by decide +kernel
theorem dX6_counted_77 : decode cX6_counted 77 = .ok (.iaload, 1) := by decide +kernel
theorem dX6_counted_78 : decode cX6_counted 78 = .ok (.ireturn, 1) := by decide +kernel
theorem dX6_counted_79 : decode cX6_counted 79 = .ok (.aload_n 0, 1) := by decide +kernel
theorem dX6_counted_80 : decode cX6_counted 80 = .ok (.getfield 7, 3) := by decide +kernel
theorem dX6_counted_83 : decode cX6_counted 83 = .ok (.bipush 8, 2) := by decide +kernel
theorem dX6_counted_85 : decode cX6_counted 85 = .ok (.iload_n 1, 1) := by decide +kernel
theorem dX6_counted_86 : decode cX6_counted 86 = .ok (.iadd, 1) := by decide +kernel
theorem dX6_counted_87 : decode cX6_counted 87 = .ok (.iconst 1, 1) := by decide +kernel
theorem dX6_counted_88 : decode cX6_counted 88 = .ok (.isub, 1) := by decide +kernel
theorem dX6_counted_89 : decode cX6_counted 89 = .ok (.iaload, 1) := by decide +kernel
theorem dX6_counted_90 : decode cX6_counted 90 = .ok (.ireturn, 1) := by decide +kernel
theorem dX6_counted_91 : decode cX6_counted 91 = .ok (.aload_n 0, 1) := by decide +kernel
theorem dX6_counted_92 : decode cX6_counted 92 = .ok (.invokevirtual 200, 3) := by decide +kernel
theorem dX6_counted_95 : decode cX6_counted 95 = .ok (.ireturn, 1) := by decide +kernel
theorem dX6_counted_96 : decode cX6_counted 96 = .ok (.aload_n 0, 1) := by decide +kernel
theorem dX6_counted_97 : decode cX6_counted 97 = .ok (.getfield 7, 3) := by decide +kernel
theorem dX6_counted_100 : decode cX6_counted 100 = .ok (.iconst 4, 1) := by decide +kernel
theorem dX6_counted_101 : decode cX6_counted 101 = .ok (.iload_n 1, 1) := by decide +kernel
theorem dX6_counted_102 : decode cX6_counted 102 = .ok (.iadd, 1) := by decide +kernel
theorem dX6_counted_103 : decode cX6_counted 103 = .ok (.bipush 8, 2) := by decide +kernel
theorem dX6_counted_105 : decode cX6_counted 105 = .ok (.isub, 1) := by decide +kernel
theorem dX6_counted_106 : decode cX6_counted 106 = .ok (.iaload, 1) := by decide +kernel
theorem dX6_counted_107 : decode cX6_counted 107 = .ok (.ireturn, 1) := by decide +kernel
theorem dX6_counted_108 : decode cX6_counted 108 = .ok (.aload_n 0, 1) := by decide +kernel
theorem dX6_counted_109 : decode cX6_counted 109 = .ok (.getfield 7, 3) := by decide +kernel
theorem dX6_counted_112 : decode cX6_counted 112 = .ok (.bipush 15, 2) := by decide +kernel
theorem dX6_counted_114 : decode cX6_counted 114 = .ok (.iaload, 1) := by decide +kernel
theorem dX6_counted_115 : decode cX6_counted 115 = .ok (.ireturn, 1) := by decide +kernel
theorem dX6_counted_116 : decode cX6_counted 116 = .ok (.aload_n 0, 1) := by decide +kernel
theorem dX6_counted_117 : decode cX6_counted 117 = .ok (.getfield 26, 3) := by decide +kernel
theorem dX6_counted_120 : decode cX6_counted 120 = .ok (.ireturn, 1) := by decide +kernel
theorem dX6_counted_121 : decode cX6_counted 121 = .ok (.aload_n 0, 1) := by decide +kernel
theorem dX6_counted_122 : decode cX6_counted 122 = .ok (.getfield 7, 3) := by decide +kernel
theorem dX6_counted_125 : decode cX6_counted 125 = .ok (.bipush 10, 2) := by decide +kernel
theorem dX6_counted_127 : decode cX6_counted 127 = .ok (.iload_n 1, 1) := by decide +kernel
theorem dX6_counted_128 : decode cX6_counted 128 = .ok (.iadd, 1) := by decide +kernel
theorem dX6_counted_129 : decode cX6_counted 129 = .ok (.iconst 4, 1) := by decide +kernel
theorem dX6_counted_130 : decode cX6_counted 130 = .ok (.isub, 1) := by decide +kernel
theorem dX6_counted_131 : decode cX6_counted 131 = .ok (.iaload, 1) := by decide +kernel
theorem dX6_counted_132 : decode cX6_counted 132 = .ok (.ireturn, 1) := by decide +kernel
theorem dX6_count_0 : decode cX6_count 0 = .ok (.aload_n 0, 1) := by decide +kernel
theorem dX6_count_1 : decode cX6_count 1 = .ok (.iload_n 1, 1) := by decide +kernel
theorem dX6_count_2 : decode cX6_count 2 = .ok (.iconst 0, 1) := by decide +kernel
theorem dX6_count_3 : decode cX6_count 3 = .ok (.bipush 13, 2) := by decide +kernel
theorem dX6_count_5 : decode cX6_count 5 = .ok (.invokestatic 29, 3) := by decide +kernel
theorem dX6_count_8 : decode cX6_count 8 = .ok (.ifCond .eq 7, 3) := by decide +kernel
theorem dX6_count_11 : decode cX6_count 11 = .ok (.iconst 0, 1) := by decide +kernel
theorem dX6_count_12 : decode cX6_count 12 = .ok (.goto 4, 3) := by decide +kernel
theorem dX6_count_15 : decode cX6_count 15 = .ok (.iconst 1, 1) := by decide +kernel
theorem dX6_count_16 : decode cX6_count 16 = .ok (.putfield 22, 3) := by decide +kernel
theorem dX6_count_19 : decode cX6_count 19 = .ok (.aload_n 0, 1) := by decide +kernel
theorem dX6_count_20 : decode cX6_count 20 = .ok (.getfield 22, 3) := by decide +kernel
theorem dX6_count_23 : decode cX6_count 23 = .ok (.ifCond .le 7, 3) := by decide +kernel
theorem dX6_count_26 : decode cX6_count 26 = .ok (.iconst 0, 1) := by decide +kernel
theorem dX6_count_27 : decode cX6_count 27 = .ok (.goto 8, 3) := by decide +kernel
theorem dX6_count_30 : decode cX6_count 30 = .ok (.aload_n 0, 1) := by decide +kernel
theorem dX6_count_31 : decode cX6_count 31 = .ok (.iload_n 1, 1) := by decide +kernel
theorem dX6_count_32 : decode cX6_count 32 = .ok (.invokevirtual 203, 3) := by decide +kernel
theorem dX6_count_35 : decode cX6_count 35 = .ok (.ireturn, 1) := by decide +kernel
theorem dX6_setting_0 : decode cX6_setting 0 = .ok (.aload_n 0, 1) := by decide +kernel
theorem dX6_setting_1 : decode cX6_setting 1 = .ok (.iload_n 1, 1) := by decide +kernel
theorem dX6_setting_2 : decode cX6_setting 2 = .ok (.invokestatic 158, 3) := by decide +kernel
theorem dX6_setting_5 : decode cX6_setting 5 = .ok (.ifCond .eq 7, 3) := by decide +kernel
theorem dX6_setting_8 : decode cX6_setting 8 = .ok (.iconst 0, 1) := by decide +kernel
theorem dX6_setting_9 : decode cX6_setting 9 = .ok (.goto 4, 3) := by decide +kernel
theorem dX6_setting_12 : decode cX6_setting 12 = .ok (.iconst 1, 1) := by decide +kernel
theorem dX6_setting_13 : decode cX6_setting 13 = .ok (.putfield 22, 3) := by decide +kernel
theorem dX6_setting_16 : decode cX6_setting 16 = .ok (.aload_n 0, 1) := by decide +kernel
theorem dX6_setting_17 : decode cX6_setting 17 = .ok (.getfield 22, 3) := by decide +kernel
theorem dX6_setting_20 : decode cX6_setting 20 = .ok (.ifCond .le 7, 3) := by decide +kernel
theorem dX6_setting_23 : decode cX6_setting 23 = .ok (.iconst 0, 1) := by decide +kernel
theorem dX6_setting_24 : decode cX6_setting 24 = .ok (.goto 9, 3) := by decide +kernel
theorem dX6_setting_27 : decode cX6_setting 27 = .ok (.aload_n 0, 1) := by decide +kernel
theorem dX6_setting_28 : decode cX6_setting 28 = .ok (.getfield 7, 3) := by decide +kernel
theorem dX6_setting_31 : decode cX6_setting 31 = .ok (.iload_n 1, 1) := by decide +kernel
theorem dX6_setting_32 : decode cX6_setting 32 = .ok (.iaload, 1) := by decide +kernel
theorem dX6_setting_33 : decode cX6_setting 33 = .ok (.ireturn, 1) := by decide +kernel
theorem dX6_exchangedThen_0 : decode cX6_exchangedThen 0 = .ok (.iload_n 2, 1) := by decide +kernel
theorem dX6_exchangedThen_1 : decode cX6_exchangedThen 1 = .ok (.iload_n 3, 1) := by decide +kernel
theorem dX6_exchangedThen_2 : decode cX6_exchangedThen 2 = .ok (.invokestatic 99, 3) := by decide +kernel
theorem dX6_exchangedThen_5 : decode cX6_exchangedThen 5 = .ok (.ifCond .eq 7, 3) := by decide +kernel
theorem dX6_exchangedThen_8 : decode cX6_exchangedThen 8 = .ok (.iconst (-1), 1) := by decide +kernel
theorem dX6_exchangedThen_9 : decode cX6_exchangedThen 9 = .ok (.goto 12, 3) := by decide +kernel
theorem dX6_exchangedThen_12 : decode cX6_exchangedThen 12 = .ok (.aload_n 0, 1) := by decide +kernel
theorem dX6_exchangedThen_13 : decode cX6_exchangedThen 13 = .ok (.iload_n 1, 1) := by decide +kernel
theorem dX6_exchangedThen_14 : decode cX6_exchangedThen 14 = .ok (.iload_n 2, 1) := by decide +kernel
theorem dX6_exchangedThen_15 : decode cX6_exchangedThen 15 = .ok (.iload_n 3, 1) := by decide +kernel
theorem dX6_exchangedThen_16 : decode cX6_exchangedThen 16 = .ok (.iload 4, 2) := by decide +kernel
theorem dX6_exchangedThen_18 : decode cX6_exchangedThen 18 = .ok (.invokevirtual 206, 3) := by decide +kernel
theorem dX6_exchangedThen_21 : decode cX6_exchangedThen 21 = .ok (.ireturn, 1) := by decide +kernel
theorem dX6_ifExchanged_0 : decode cX6_ifExchanged 0 = .ok (.aload_n 0, 1) := by decide +kernel
theorem dX6_ifExchanged_1 : decode cX6_ifExchanged 1 = .ok (.iload_n 1, 1) := by decide +kernel
theorem dX6_ifExchanged_2 : decode cX6_ifExchanged 2 = .ok (.iload_n 2, 1) := by decide +kernel
theorem dX6_ifExchanged_3 : decode cX6_ifExchanged 3 = .ok (.invokestatic 40, 3) := by decide +kernel
theorem dX6_ifExchanged_6 : decode cX6_ifExchanged 6 = .ok (.ifCond .eq 10, 3) := by decide +kernel
theorem dX6_ifExchanged_9 : decode cX6_ifExchanged 9 = .ok (.iload_n 3, 1) := by decide +kernel
theorem dX6_ifExchanged_10 : decode cX6_ifExchanged 10 = .ok (.invokestatic 37, 3) := by decide +kernel
theorem dX6_ifExchanged_13 : decode cX6_ifExchanged 13 = .ok (.ifCond .ne 7, 3) := by decide +kernel
theorem dX6_ifExchanged_16 : decode cX6_ifExchanged 16 = .ok (.iconst 1, 1) := by decide +kernel
theorem dX6_ifExchanged_17 : decode cX6_ifExchanged 17 = .ok (.goto 16, 3) := by decide +kernel
theorem dX6_ifExchanged_20 : decode cX6_ifExchanged 20 = .ok (.iload 4, 2) := by decide +kernel
theorem dX6_ifExchanged_22 : decode cX6_ifExchanged 22 = .ok (.invokestatic 62, 3) := by decide +kernel
theorem dX6_ifExchanged_25 : decode cX6_ifExchanged 25 = .ok (.ifCond .eq 7, 3) := by decide +kernel
theorem dX6_ifExchanged_28 : decode cX6_ifExchanged 28 = .ok (.iconst 0, 1) := by decide +kernel
theorem dX6_ifExchanged_29 : decode cX6_ifExchanged 29 = .ok (.goto 4, 3) := by decide +kernel
theorem dX6_ifExchanged_32 : decode cX6_ifExchanged 32 = .ok (.iconst 2, 1) := by decide +kernel
theorem dX6_ifExchanged_33 : decode cX6_ifExchanged 33 = .ok (.putfield 22, 3) := by decide +kernel
theorem dX6_ifExchanged_36 : decode cX6_ifExchanged 36 = .ok (.aload_n 0, 1) := by decide +kernel
theorem dX6_ifExchanged_37 : decode cX6_ifExchanged 37 = .ok (.getfield 22, 3) := by decide +kernel
theorem dX6_ifExchanged_40 : decode cX6_ifExchanged 40 = .ok (.ifCond .le 7, 3) := by decide +kernel
theorem dX6_ifExchanged_43 : decode cX6_ifExchanged 43 = .ok (.iconst 0, 1) := by decide +kernel
theorem dX6_ifExchanged_44 : decode cX6_ifExchanged 44 = .ok (.goto 12, 3) := by decide +kernel
theorem dX6_ifExchanged_47 : decode cX6_ifExchanged 47 = .ok (.aload_n 0, 1) := by decide +kernel
theorem dX6_ifExchanged_48 : decode cX6_ifExchanged 48 = .ok (.iload_n 1, 1) := by decide +kernel
theorem dX6_ifExchanged_49 : decode cX6_ifExchanged 49 = .ok (.iload_n 2, 1) := by decide +kernel
theorem dX6_ifExchanged_50 : decode cX6_ifExchanged 50 = .ok (.iload_n 3, 1) := by decide +kernel
theorem dX6_ifExchanged_51 : decode cX6_ifExchanged 51 = .ok (.iload 4, 2) := by decide +kernel
theorem dX6_ifExchanged_53 : decode cX6_ifExchanged 53 = .ok (.invokevirtual 209, 3) := by decide +kernel
theorem dX6_ifExchanged_56 : decode cX6_ifExchanged 56 = .ok (.ireturn, 1) := by decide +kernel
theorem dX6_neededFor_0 : decode cX6_neededFor 0 = .ok (.iconst 1, 1) := by decide +kernel
theorem dX6_neededFor_1 : decode cX6_neededFor 1 = .ok (.istore 4, 2) := by decide +kernel
theorem dX6_neededFor_3 : decode cX6_neededFor 3 = .ok (.ldc 212, 2) := by decide +kernel
theorem dX6_neededFor_5 : decode cX6_neededFor 5 = .ok (.istore 5, 2) := by decide +kernel
theorem dX6_neededFor_7 : decode cX6_neededFor 7 = .ok (.iload 4, 2) := by decide +kernel
theorem dX6_neededFor_9 : decode cX6_neededFor 9 = .ok (.iload 5, 2) := by decide +kernel
theorem dX6_neededFor_11 : decode cX6_neededFor 11 = .ok (.if_icmp .ge 41, 3) := by decide +kernel
theorem dX6_neededFor_14 : decode cX6_neededFor 14 = .ok (.iload 4, 2) := by decide +kernel
theorem dX6_neededFor_16 : decode cX6_neededFor 16 = .ok (.iload 5, 2) := by decide +kernel
theorem dX6_neededFor_18 : decode cX6_neededFor 18 = .ok (.iadd, 1) := by decide +kernel
theorem dX6_neededFor_19 : decode cX6_neededFor 19 = .ok (.iconst 2, 1) := by decide +kernel
theorem dX6_neededFor_20 : decode cX6_neededFor 20 = .ok (.idiv, 1) := by decide +kernel
theorem dX6_neededFor_21 : decode cX6_neededFor 21 = .ok (.istore 6, 2) := by decide +kernel
theorem dX6_neededFor_23 : decode cX6_neededFor 23 = .ok (.aload_n 0, 1) := by decide +kernel
theorem dX6_neededFor_24 : decode cX6_neededFor 24 = .ok (.iload_n 1, 1) := by decide +kernel
theorem dX6_neededFor_25 : decode cX6_neededFor 25 = .ok (.iconst 0, 1) := by decide +kernel
theorem dX6_neededFor_26 : decode cX6_neededFor 26 = .ok (.iload_n 2, 1) := by decide +kernel
theorem dX6_neededFor_27 : decode cX6_neededFor 27 = .ok (.iload 6, 2) := by decide +kernel
theorem dX6_neededFor_29 : decode cX6_neededFor 29 = .ok (.invokevirtual 206, 3) := by decide +kernel
theorem dX6_neededFor_32 : decode cX6_neededFor 32 = .ok (.iload_n 3, 1) := by decide +kernel
theorem dX6_neededFor_33 : decode cX6_neededFor 33 = .ok (.if_icmp .ge 12, 3) := by decide +kernel
theorem dX6_neededFor_36 : decode cX6_neededFor 36 = .ok (.iload 6, 2) := by decide +kernel
theorem dX6_neededFor_38 : decode cX6_neededFor 38 = .ok (.iconst 1, 1) := by decide +kernel
theorem dX6_neededFor_39 : decode cX6_neededFor 39 = .ok (.iadd, 1) := by decide +kernel
theorem dX6_neededFor_40 : decode cX6_neededFor 40 = .ok (.istore 4, 2) := by decide +kernel
theorem dX6_neededFor_42 : decode cX6_neededFor 42 = .ok (.goto 7, 3) := by decide +kernel
theorem dX6_neededFor_45 : decode cX6_neededFor 45 = .ok (.iload 6, 2) := by decide +kernel
theorem dX6_neededFor_47 : decode cX6_neededFor 47 = .ok (.istore 5, 2) := by decide +kernel
theorem dX6_neededFor_49 : decode cX6_neededFor 49 = .ok (.goto (-42), 3) := by decide +kernel
theorem dX6_neededFor_52 : decode cX6_neededFor 52 = .ok (.iload 4, 2) := by decide +kernel
theorem dX6_neededFor_54 : decode cX6_neededFor 54 = .ok (.ireturn, 1) := by decide +kernel
theorem dX6_needed_0 : decode cX6_needed 0 = .ok (.aload_n 0, 1) := by decide +kernel
theorem dX6_needed_1 : decode cX6_needed 1 = .ok (.iload_n 1, 1) := by decide +kernel
theorem dX6_needed_2 : decode cX6_needed 2 = .ok (.iload_n 2, 1) := by decide +kernel
theorem dX6_needed_3 : decode cX6_needed 3 = .ok (.invokestatic 83, 3) := by decide +kernel
theorem dX6_needed_6 : decode cX6_needed 6 = .ok (.ifCond .ne 7, 3) := by decide +kernel
theorem dX6_needed_9 : decode cX6_needed 9 = .ok (.iconst 1, 1) := by decide +kernel
theorem dX6_needed_10 : decode cX6_needed 10 = .ok (.goto 19, 3) := by decide +kernel
theorem dX6_needed_13 : decode cX6_needed 13 = .ok (.iload_n 3, 1) := by decide +kernel
theorem dX6_needed_14 : decode cX6_needed 14 = .ok (.iconst 1, 1) := by decide +kernel
theorem dX6_needed_15 : decode cX6_needed 15 = .ok (.sipush 9999, 3) := by decide +kernel
theorem dX6_needed_18 : decode cX6_needed 18 = .ok (.invokestatic 29, 3) := by decide +kernel
theorem dX6_needed_21 : decode cX6_needed 21 = .ok (.ifCond .eq 7, 3) := by decide +kernel
theorem dX6_needed_24 : decode cX6_needed 24 = .ok (.iconst 0, 1) := by decide +kernel
theorem dX6_needed_25 : decode cX6_needed 25 = .ok (.goto 4, 3) := by decide +kernel
theorem dX6_needed_28 : decode cX6_needed 28 = .ok (.iconst 2, 1) := by decide +kernel
theorem dX6_needed_29 : decode cX6_needed 29 = .ok (.putfield 22, 3) := by decide +kernel
theorem dX6_needed_32 : decode cX6_needed 32 = .ok (.aload_n 0, 1) := by decide +kernel
theorem dX6_needed_33 : decode cX6_needed 33 = .ok (.getfield 22, 3) := by decide +kernel
theorem dX6_needed_36 : decode cX6_needed 36 = .ok (.ifCond .le 7, 3) := by decide +kernel
theorem dX6_needed_39 : decode cX6_needed 39 = .ok (.iconst 0, 1) := by decide +kernel
theorem dX6_needed_40 : decode cX6_needed 40 = .ok (.goto 10, 3) := by decide +kernel
theorem dX6_needed_43 : decode cX6_needed 43 = .ok (.aload_n 0, 1) := by decide +kernel
theorem dX6_needed_44 : decode cX6_needed 44 = .ok (.iload_n 1, 1) := by decide +kernel
theorem dX6_needed_45 : decode cX6_needed 45 = .ok (.iload_n 2, 1) := by decide +kernel
theorem dX6_needed_46 : decode cX6_needed 46 = .ok (.iload_n 3, 1) := by decide +kernel
theorem dX6_needed_47 : decode cX6_needed 47 = .ok (.invokevirtual 213, 3) := by decide +kernel
theorem dX6_needed_50 : decode cX6_needed 50 = .ok (.ireturn, 1) := by decide +kernel
theorem dX6_roomOf_0 : decode cX6_roomOf 0 = .ok (.aload_n 0, 1) := by decide +kernel
theorem dX6_roomOf_1 : decode cX6_roomOf 1 = .ok (.iload_n 1, 1) := by decide +kernel
theorem dX6_roomOf_2 : decode cX6_roomOf 2 = .ok (.iload_n 2, 1) := by decide +kernel
theorem dX6_roomOf_3 : decode cX6_roomOf 3 = .ok (.invokevirtual 102, 3) := by decide +kernel
theorem dX6_roomOf_6 : decode cX6_roomOf 6 = .ok (.istore_n 3, 1) := by decide +kernel
theorem dX6_roomOf_7 : decode cX6_roomOf 7 = .ok (.iconst 0, 1) := by decide +kernel
theorem dX6_roomOf_8 : decode cX6_roomOf 8 = .ok (.istore 4, 2) := by decide +kernel
theorem dX6_roomOf_10 : decode cX6_roomOf 10 = .ok (.ldc 44, 2) := by decide +kernel
theorem dX6_roomOf_12 : decode cX6_roomOf 12 = .ok (.istore 5, 2) := by decide +kernel
theorem dX6_roomOf_14 : decode cX6_roomOf 14 = .ok (.iload 4, 2) := by decide +kernel
theorem dX6_roomOf_16 : decode cX6_roomOf 16 = .ok (.iload 5, 2) := by decide +kernel
theorem dX6_roomOf_18 : decode cX6_roomOf 18 = .ok (.if_icmp .ge 40, 3) := by decide +kernel
theorem dX6_roomOf_21 : decode cX6_roomOf 21 = .ok (.iload 4, 2) := by decide +kernel
theorem dX6_roomOf_23 : decode cX6_roomOf 23 = .ok (.iload 5, 2) := by decide +kernel
theorem dX6_roomOf_25 : decode cX6_roomOf 25 = .ok (.iadd, 1) := by decide +kernel
theorem dX6_roomOf_26 : decode cX6_roomOf 26 = .ok (.iconst 1, 1) := by decide +kernel
theorem dX6_roomOf_27 : decode cX6_roomOf 27 = .ok (.iadd, 1) := by decide +kernel
theorem dX6_roomOf_28 : decode cX6_roomOf 28 = .ok (.iconst 2, 1) := by decide +kernel
theorem dX6_roomOf_29 : decode cX6_roomOf 29 = .ok (.idiv, 1) := by decide +kernel
theorem dX6_roomOf_30 : decode cX6_roomOf 30 = .ok (.istore 6, 2) := by decide +kernel
theorem dX6_roomOf_32 : decode cX6_roomOf 32 = .ok (.aload_n 0, 1) := by decide +kernel
theorem dX6_roomOf_33 : decode cX6_roomOf 33 = .ok (.iload 6, 2) := by decide +kernel
theorem dX6_roomOf_35 : decode cX6_roomOf 35 = .ok (.invokevirtual 111, 3) := by decide +kernel
theorem dX6_roomOf_38 : decode cX6_roomOf 38 = .ok (.iload_n 3, 1) := by decide +kernel
theorem dX6_roomOf_39 : decode cX6_roomOf 39 = .ok (.if_icmp .gt 10, 3) := by decide +kernel
theorem dX6_roomOf_42 : decode cX6_roomOf 42 = .ok (.iload 6, 2) := by decide +kernel
theorem dX6_roomOf_44 : decode cX6_roomOf 44 = .ok (.istore 4, 2) := by decide +kernel
theorem dX6_roomOf_46 : decode cX6_roomOf 46 = .ok (.goto 9, 3) := by decide +kernel
theorem dX6_roomOf_49 : decode cX6_roomOf 49 = .ok (.iload 6, 2) := by decide +kernel
theorem dX6_roomOf_51 : decode cX6_roomOf 51 = .ok (.iconst 1, 1) := by decide +kernel
theorem dX6_roomOf_52 : decode cX6_roomOf 52 = .ok (.isub, 1) := by decide +kernel
theorem dX6_roomOf_53 : decode cX6_roomOf 53 = .ok (.istore 5, 2) := by decide +kernel
theorem dX6_roomOf_55 : decode cX6_roomOf 55 = .ok (.goto (-41), 3) := by decide +kernel
theorem dX6_roomOf_58 : decode cX6_roomOf 58 = .ok (.iload 4, 2) := by decide +kernel
theorem dX6_roomOf_60 : decode cX6_roomOf 60 = .ok (.ireturn, 1) := by decide +kernel
theorem dX6_room_0 : decode cX6_room 0 = .ok (.aload_n 0, 1) := by decide +kernel
theorem dX6_room_1 : decode cX6_room 1 = .ok (.iload_n 1, 1) := by decide +kernel
theorem dX6_room_2 : decode cX6_room 2 = .ok (.iload_n 2, 1) := by decide +kernel
theorem dX6_room_3 : decode cX6_room 3 = .ok (.invokestatic 40, 3) := by decide +kernel
theorem dX6_room_6 : decode cX6_room 6 = .ok (.ifCond .eq 7, 3) := by decide +kernel
theorem dX6_room_9 : decode cX6_room 9 = .ok (.iconst 0, 1) := by decide +kernel
theorem dX6_room_10 : decode cX6_room 10 = .ok (.goto 4, 3) := by decide +kernel
theorem dX6_room_13 : decode cX6_room 13 = .ok (.iconst 1, 1) := by decide +kernel
theorem dX6_room_14 : decode cX6_room 14 = .ok (.putfield 22, 3) := by decide +kernel
theorem dX6_room_17 : decode cX6_room 17 = .ok (.aload_n 0, 1) := by decide +kernel
theorem dX6_room_18 : decode cX6_room 18 = .ok (.getfield 22, 3) := by decide +kernel
theorem dX6_room_21 : decode cX6_room 21 = .ok (.ifCond .le 7, 3) := by decide +kernel
theorem dX6_room_24 : decode cX6_room 24 = .ok (.iconst 0, 1) := by decide +kernel
theorem dX6_room_25 : decode cX6_room 25 = .ok (.goto 9, 3) := by decide +kernel
theorem dX6_room_28 : decode cX6_room 28 = .ok (.aload_n 0, 1) := by decide +kernel
theorem dX6_room_29 : decode cX6_room 29 = .ok (.iload_n 1, 1) := by decide +kernel
theorem dX6_room_30 : decode cX6_room 30 = .ok (.iload_n 2, 1) := by decide +kernel
theorem dX6_room_31 : decode cX6_room 31 = .ok (.invokevirtual 216, 3) := by decide +kernel
theorem dX6_room_34 : decode cX6_room 34 = .ok (.ireturn, 1) := by decide +kernel
theorem dX6_whyNot_0 : decode cX6_whyNot 0 = .ok (.aload_n 0, 1) := by decide +kernel
theorem dX6_whyNot_1 : decode cX6_whyNot 1 = .ok (.iload_n 2, 1) := by decide +kernel
theorem dX6_whyNot_2 : decode cX6_whyNot 2 = .ok (.iload_n 3, 1) := by decide +kernel
theorem dX6_whyNot_3 : decode cX6_whyNot 3 = .ok (.invokestatic 40, 3) := by decide +kernel
theorem dX6_whyNot_6 : decode cX6_whyNot 6 = .ok (.ifCond .eq 11, 3) := by decide +kernel
theorem dX6_whyNot_9 : decode cX6_whyNot 9 = .ok (.iload 4, 2) := by decide +kernel
theorem dX6_whyNot_11 : decode cX6_whyNot 11 = .ok (.invokestatic 37, 3) := by decide +kernel
theorem dX6_whyNot_14 : decode cX6_whyNot 14 = .ok (.ifCond .ne 7, 3) := by decide +kernel
theorem dX6_whyNot_17 : decode cX6_whyNot 17 = .ok (.iconst 1, 1) := by decide +kernel
theorem dX6_whyNot_18 : decode cX6_whyNot 18 = .ok (.goto 25, 3) := by decide +kernel
theorem dX6_whyNot_21 : decode cX6_whyNot 21 = .ok (.iload_n 1, 1) := by decide +kernel
theorem dX6_whyNot_22 : decode cX6_whyNot 22 = .ok (.iconst 0, 1) := by decide +kernel
theorem dX6_whyNot_23 : decode cX6_whyNot 23 = .ok (.iconst 2, 1) := by decide +kernel
theorem dX6_whyNot_24 : decode cX6_whyNot 24 = .ok (.invokestatic 29, 3) := by decide +kernel
theorem dX6_whyNot_27 : decode cX6_whyNot 27 = .ok (.ifCond .eq 15, 3) := by decide +kernel
theorem dX6_whyNot_30 : decode cX6_whyNot 30 = .ok (.iload 5, 2) := by decide +kernel
theorem dX6_whyNot_32 : decode cX6_whyNot 32 = .ok (.invokestatic 62, 3) := by decide +kernel
theorem dX6_whyNot_35 : decode cX6_whyNot 35 = .ok (.ifCond .eq 7, 3) := by decide +kernel
theorem dX6_whyNot_38 : decode cX6_whyNot 38 = .ok (.iconst 0, 1) := by decide +kernel
theorem dX6_whyNot_39 : decode cX6_whyNot 39 = .ok (.goto 4, 3) := by decide +kernel
theorem dX6_whyNot_42 : decode cX6_whyNot 42 = .ok (.iconst 2, 1) := by decide +kernel
theorem dX6_whyNot_43 : decode cX6_whyNot 43 = .ok (.putfield 22, 3) := by decide +kernel
theorem dX6_whyNot_46 : decode cX6_whyNot 46 = .ok (.aload_n 0, 1) := by decide +kernel
theorem dX6_whyNot_47 : decode cX6_whyNot 47 = .ok (.getfield 22, 3) := by decide +kernel
theorem dX6_whyNot_50 : decode cX6_whyNot 50 = .ok (.ifCond .le 5, 3) := by decide +kernel
theorem dX6_whyNot_53 : decode cX6_whyNot 53 = .ok (.iconst 0, 1) := by decide +kernel
theorem dX6_whyNot_54 : decode cX6_whyNot 54 = .ok (.ireturn, 1) := by decide +kernel
theorem dX6_whyNot_55 : decode cX6_whyNot 55 = .ok (.iload_n 1, 1) := by decide +kernel
theorem dX6_whyNot_56 : decode cX6_whyNot 56 = .ok (.ifCond .ne 16, 3) := by decide +kernel
theorem dX6_whyNot_59 : decode cX6_whyNot 59 = .ok (.aload_n 0, 1) := by decide +kernel
theorem dX6_whyNot_60 : decode cX6_whyNot 60 = .ok (.iload_n 2, 1) := by decide +kernel
theorem dX6_whyNot_61 : decode cX6_whyNot 61 = .ok (.iload_n 3, 1) := by decide +kernel
theorem dX6_whyNot_62 : decode cX6_whyNot 62 = .ok (.iload 4, 2) := by decide +kernel
theorem dX6_whyNot_64 : decode cX6_whyNot 64 = .ok (.iload 5, 2) := by decide +kernel
theorem dX6_whyNot_66 : decode cX6_whyNot 66 = .ok (.invokevirtual 105, 3) := by decide +kernel
theorem dX6_whyNot_69 : decode cX6_whyNot 69 = .ok (.goto 24, 3) := by decide +kernel
theorem dX6_whyNot_72 : decode cX6_whyNot 72 = .ok (.iload_n 1, 1) := by decide +kernel
theorem dX6_whyNot_73 : decode cX6_whyNot 73 = .ok (.iconst 1, 1) := by decide +kernel
theorem dX6_whyNot_74 : decode cX6_whyNot 74 = .ok (.if_icmp .ne 14, 3) := by decide +kernel
theorem dX6_whyNot_77 : decode cX6_whyNot 77 = .ok (.aload_n 0, 1) := by decide +kernel
theorem dX6_whyNot_78 : decode cX6_whyNot 78 = .ok (.iload_n 2, 1) := by decide +kernel
theorem dX6_whyNot_79 : decode cX6_whyNot 79 = .ok (.iload_n 3, 1) := by decide +kernel
theorem dX6_whyNot_80 : decode cX6_whyNot 80 = .ok (.iload 5, 2) := by decide +kernel
theorem dX6_whyNot_82 : decode cX6_whyNot 82 = .ok (.invokevirtual 114, 3) := by decide +kernel
theorem dX6_whyNot_85 : decode cX6_whyNot 85 = .ok (.goto 8, 3) := by decide +kernel
theorem dX6_whyNot_88 : decode cX6_whyNot 88 = .ok (.aload_n 0, 1) := by decide +kernel
theorem dX6_whyNot_89 : decode cX6_whyNot 89 = .ok (.iload_n 2, 1) := by decide +kernel
theorem dX6_whyNot_90 : decode cX6_whyNot 90 = .ok (.invokevirtual 148, 3) := by decide +kernel
theorem dX6_whyNot_93 : decode cX6_whyNot 93 = .ok (.ireturn, 1) := by decide +kernel
theorem dX6_closedThen_0 : decode cX6_closedThen 0 = .ok (.aload_n 0, 1) := by decide +kernel
theorem dX6_closedThen_1 : decode cX6_closedThen 1 = .ok (.iload_n 1, 1) := by decide +kernel
theorem dX6_closedThen_2 : decode cX6_closedThen 2 = .ok (.invokevirtual 148, 3) := by decide +kernel
theorem dX6_closedThen_5 : decode cX6_closedThen 5 = .ok (.ifCond .le 5, 3) := by decide +kernel
theorem dX6_closedThen_8 : decode cX6_closedThen 8 = .ok (.iconst (-1), 1) := by decide +kernel
theorem dX6_closedThen_9 : decode cX6_closedThen 9 = .ok (.ireturn, 1) := by decide +kernel
theorem dX6_closedThen_10 : decode cX6_closedThen 10 = .ok (.aload_n 0, 1) := by decide +kernel
theorem dX6_closedThen_11 : decode cX6_closedThen 11 = .ok (.iload_n 1, 1) := by decide +kernel
theorem dX6_closedThen_12 : decode cX6_closedThen 12 = .ok (.iconst 0, 1) := by decide +kernel
theorem dX6_closedThen_13 : decode cX6_closedThen 13 = .ok (.iconst 0, 1) := by decide +kernel
theorem dX6_closedThen_14 : decode cX6_closedThen 14 = .ok (.invokevirtual 55, 3) := by decide +kernel
theorem dX6_closedThen_17 : decode cX6_closedThen 17 = .ok (.istore_n 2, 1) := by decide +kernel
theorem dX6_closedThen_18 : decode cX6_closedThen 18 = .ok (.iconst 1, 1) := by decide +kernel
theorem dX6_closedThen_19 : decode cX6_closedThen 19 = .ok (.istore_n 3, 1) := by decide +kernel
theorem dX6_closedThen_20 : decode cX6_closedThen 20 = .ok (.iload_n 3, 1) := by decide +kernel
theorem dX6_closedThen_21 : decode cX6_closedThen 21 = .ok (.iconst 4, 1) := by decide +kernel
theorem dX6_closedThen_22 : decode cX6_closedThen 22 = .ok (.if_icmp .ge 30, 3) := by decide +kernel
theorem dX6_closedThen_25 : decode cX6_closedThen 25 = .ok (.aload_n 0, 1) := by decide +kernel
theorem dX6_closedThen_26 : decode cX6_closedThen 26 = .ok (.iload_n 1, 1) := by decide +kernel
theorem dX6_closedThen_27 : decode cX6_closedThen 27 = .ok (.iload_n 3, 1) := by decide +kernel
theorem dX6_closedThen_28 : decode cX6_closedThen 28 = .ok (.iconst 0, 1) := by decide +kernel
theorem dX6_closedThen_29 : decode cX6_closedThen 29 = .ok (.aload_n 0, 1) := by decide +kernel
theorem dX6_closedThen_30 : decode cX6_closedThen 30 = .ok (.iload_n 1, 1) := by decide +kernel
theorem dX6_closedThen_31 : decode cX6_closedThen 31 = .ok (.iload_n 3, 1) := by decide +kernel
theorem dX6_closedThen_32 : decode cX6_closedThen 32 = .ok (.iconst 0, 1) := by decide +kernel
theorem dX6_closedThen_33 : decode cX6_closedThen 33 = .ok (.invokevirtual 55, 3) := by decide +kernel
theorem dX6_closedThen_36 : decode cX6_closedThen 36 = .ok (.invokevirtual 206, 3) := by decide +kernel
theorem dX6_closedThen_39 : decode cX6_closedThen 39 = .ok (.istore 4, 2) := by decide +kernel
theorem dX6_closedThen_41 : decode cX6_closedThen 41 = .ok (.iload_n 2, 1) := by decide +kernel
theorem dX6_closedThen_42 : decode cX6_closedThen 42 = .ok (.iload 4, 2) := by decide +kernel
theorem dX6_closedThen_44 : decode cX6_closedThen 44 = .ok (.iadd, 1) := by decide +kernel
theorem dX6_closedThen_45 : decode cX6_closedThen 45 = .ok (.istore_n 2, 1) := by decide +kernel
theorem dX6_closedThen_46 : decode cX6_closedThen 46 = .ok (.iinc 3 1, 3) := by decide +kernel
theorem dX6_closedThen_49 : decode cX6_closedThen 49 = .ok (.goto (-29), 3) := by decide +kernel
theorem dX6_closedThen_52 : decode cX6_closedThen 52 = .ok (.iload_n 2, 1) := by decide +kernel
theorem dX6_closedThen_53 : decode cX6_closedThen 53 = .ok (.ireturn, 1) := by decide +kernel
theorem dX6_ifClosed_0 : decode cX6_ifClosed 0 = .ok (.aload_n 0, 1) := by decide +kernel
theorem dX6_ifClosed_1 : decode cX6_ifClosed 1 = .ok (.iload_n 1, 1) := by decide +kernel
theorem dX6_ifClosed_2 : decode cX6_ifClosed 2 = .ok (.invokestatic 33, 3) := by decide +kernel
theorem dX6_ifClosed_5 : decode cX6_ifClosed 5 = .ok (.ifCond .eq 7, 3) := by decide +kernel
theorem dX6_ifClosed_8 : decode cX6_ifClosed 8 = .ok (.iconst 0, 1) := by decide +kernel
theorem dX6_ifClosed_9 : decode cX6_ifClosed 9 = .ok (.goto 4, 3) := by decide +kernel
theorem dX6_ifClosed_12 : decode cX6_ifClosed 12 = .ok (.iconst 1, 1) := by decide +kernel
theorem dX6_ifClosed_13 : decode cX6_ifClosed 13 = .ok (.putfield 22, 3) := by decide +kernel
theorem dX6_ifClosed_16 : decode cX6_ifClosed 16 = .ok (.aload_n 0, 1) := by decide +kernel
theorem dX6_ifClosed_17 : decode cX6_ifClosed 17 = .ok (.getfield 22, 3) := by decide +kernel
theorem dX6_ifClosed_20 : decode cX6_ifClosed 20 = .ok (.ifCond .le 7, 3) := by decide +kernel
theorem dX6_ifClosed_23 : decode cX6_ifClosed 23 = .ok (.iconst 0, 1) := by decide +kernel
theorem dX6_ifClosed_24 : decode cX6_ifClosed 24 = .ok (.goto 8, 3) := by decide +kernel
theorem dX6_ifClosed_27 : decode cX6_ifClosed 27 = .ok (.aload_n 0, 1) := by decide +kernel
theorem dX6_ifClosed_28 : decode cX6_ifClosed 28 = .ok (.iload_n 1, 1) := by decide +kernel
theorem dX6_ifClosed_29 : decode cX6_ifClosed 29 = .ok (.invokevirtual 219, 3) := by decide +kernel
theorem dX6_ifClosed_32 : decode cX6_ifClosed 32 = .ok (.ireturn, 1) := by decide +kernel
theorem dX6_share_0 : decode cX6_share 0 = .ok (.aload_n 0, 1) := by decide +kernel
theorem dX6_share_1 : decode cX6_share 1 = .ok (.iload_n 1, 1) := by decide +kernel
theorem dX6_share_2 : decode cX6_share 2 = .ok (.iload_n 2, 1) := by decide +kernel
theorem dX6_share_3 : decode cX6_share 3 = .ok (.iconst 0, 1) := by decide +kernel
theorem dX6_share_4 : decode cX6_share 4 = .ok (.invokevirtual 55, 3) := by decide +kernel
theorem dX6_share_7 : decode cX6_share 7 = .ok (.istore_n 3, 1) := by decide +kernel
theorem dX6_share_8 : decode cX6_share 8 = .ok (.iload_n 3, 1) := by decide +kernel
theorem dX6_share_9 : decode cX6_share 9 = .ok (.ifCond .ne 7, 3) := by decide +kernel
theorem dX6_share_12 : decode cX6_share 12 = .ok (.dconst 0, 1) := by decide +kernel
theorem dX6_share_13 : decode cX6_share 13 = .ok (.goto 13, 3) := by decide +kernel
theorem dX6_share_16 : decode cX6_share 16 = .ok (.aload_n 0, 1) := by decide +kernel
theorem dX6_share_17 : decode cX6_share 17 = .ok (.iload_n 1, 1) := by decide +kernel
theorem dX6_share_18 : decode cX6_share 18 = .ok (.iload_n 2, 1) := by decide +kernel
theorem dX6_share_19 : decode cX6_share 19 = .ok (.invokevirtual 59, 3) := by decide +kernel
theorem dX6_share_22 : decode cX6_share 22 = .ok (.i2d, 1) := by decide +kernel
theorem dX6_share_23 : decode cX6_share 23 = .ok (.iload_n 3, 1) := by decide +kernel
theorem dX6_share_24 : decode cX6_share 24 = .ok (.i2d, 1) := by decide +kernel
theorem dX6_share_25 : decode cX6_share 25 = .ok (.ddiv, 1) := by decide +kernel
theorem dX6_share_26 : decode cX6_share 26 = .ok (.dreturn, 1) := by decide +kernel
theorem dX6_heldShare_0 : decode cX6_heldShare 0 = .ok (.aload_n 0, 1) := by decide +kernel
theorem dX6_heldShare_1 : decode cX6_heldShare 1 = .ok (.iload_n 1, 1) := by decide +kernel
theorem dX6_heldShare_2 : decode cX6_heldShare 2 = .ok (.iload_n 2, 1) := by decide +kernel
theorem dX6_heldShare_3 : decode cX6_heldShare 3 = .ok (.invokestatic 40, 3) := by decide +kernel
theorem dX6_heldShare_6 : decode cX6_heldShare 6 = .ok (.ifCond .eq 7, 3) := by decide +kernel
theorem dX6_heldShare_9 : decode cX6_heldShare 9 = .ok (.iconst 0, 1) := by decide +kernel
theorem dX6_heldShare_10 : decode cX6_heldShare 10 = .ok (.goto 4, 3) := by decide +kernel
theorem dX6_heldShare_13 : decode cX6_heldShare 13 = .ok (.iconst 1, 1) := by decide +kernel
theorem dX6_heldShare_14 : decode cX6_heldShare 14 = .ok (.putfield 22, 3) := by decide +kernel
theorem dX6_heldShare_17 : decode cX6_heldShare 17 = .ok (.aload_n 0, 1) := by decide +kernel
theorem dX6_heldShare_18 : decode cX6_heldShare 18 = .ok (.getfield 22, 3) := by decide +kernel
theorem dX6_heldShare_21 : decode cX6_heldShare 21 = .ok (.ifCond .le 7, 3) := by decide +kernel
theorem dX6_heldShare_24 : decode cX6_heldShare 24 = .ok (.dconst 0, 1) := by decide +kernel
theorem dX6_heldShare_25 : decode cX6_heldShare 25 = .ok (.goto 9, 3) := by decide +kernel
theorem dX6_heldShare_28 : decode cX6_heldShare 28 = .ok (.aload_n 0, 1) := by decide +kernel
theorem dX6_heldShare_29 : decode cX6_heldShare 29 = .ok (.iload_n 1, 1) := by decide +kernel
theorem dX6_heldShare_30 : decode cX6_heldShare 30 = .ok (.iload_n 2, 1) := by decide +kernel
theorem dX6_heldShare_31 : decode cX6_heldShare 31 = .ok (.invokevirtual 222, 3) := by decide +kernel
theorem dX6_heldShare_34 : decode cX6_heldShare 34 = .ok (.dreturn, 1) := by decide +kernel
theorem dX6_mix_0 : decode cX6_mix 0 = .ok (.aload_n 0, 1) := by decide +kernel
theorem dX6_mix_1 : decode cX6_mix 1 = .ok (.ldc2_w 226, 3) := by decide +kernel
theorem dX6_mix_4 : decode cX6_mix 4 = .ok (.aload_n 0, 1) := by decide +kernel
theorem dX6_mix_5 : decode cX6_mix 5 = .ok (.getfield 228, 3) := by decide +kernel
theorem dX6_mix_8 : decode cX6_mix 8 = .ok (.lmul, 1) := by decide +kernel
theorem dX6_mix_9 : decode cX6_mix 9 = .ok (.lload_n 1, 1) := by decide +kernel
theorem dX6_mix_10 : decode cX6_mix 10 = .ok (.ladd, 1) := by decide +kernel
theorem dX6_mix_11 : decode cX6_mix 11 = .ok (.putfield 228, 3) := by decide +kernel
theorem dX6_mix_14 : decode cX6_mix 14 = .ok (.return_, 1) := by decide +kernel
theorem dX6_mixWallet_0 : decode cX6_mixWallet 0 = .ok (.iconst 0, 1) := by decide +kernel
theorem dX6_mixWallet_1 : decode cX6_mixWallet 1 = .ok (.istore_n 2, 1) := by decide +kernel
theorem dX6_mixWallet_2 : decode cX6_mixWallet 2 = .ok (.iload_n 2, 1) := by decide +kernel
theorem dX6_mixWallet_3 : decode cX6_mixWallet 3 = .ok (.iconst 4, 1) := by decide +kernel
theorem dX6_mixWallet_4 : decode cX6_mixWallet 4 = .ok (.if_icmp .ge 59, 3) := by decide +kernel
theorem dX6_mixWallet_7 : decode cX6_mixWallet 7 = .ok (.iconst 0, 1) := by decide +kernel
theorem dX6_mixWallet_8 : decode cX6_mixWallet 8 = .ok (.istore_n 3, 1) := by decide +kernel
theorem dX6_mixWallet_9 : decode cX6_mixWallet 9 = .ok (.iload_n 3, 1) := by decide +kernel
theorem dX6_mixWallet_10 : decode cX6_mixWallet 10 = .ok (.bipush 8, 2) := by decide +kernel
theorem dX6_mixWallet_12 : decode cX6_mixWallet 12 = .ok (.if_icmp .ge 21, 3) := by decide +kernel
theorem dX6_mixWallet_15 : decode cX6_mixWallet 15 = .ok (.aload_n 0, 1) := by decide +kernel
theorem dX6_mixWallet_16 : decode cX6_mixWallet 16 = .ok (.aload_n 0, 1) := by decide +kernel
theorem dX6_mixWallet_17 : decode cX6_mixWallet 17 = .ok (.iload_n 1, 1) := by decide +kernel
theorem dX6_mixWallet_18 : decode cX6_mixWallet 18 = .ok (.iload_n 2, 1) := by decide +kernel
theorem dX6_mixWallet_19 : decode cX6_mixWallet 19 = .ok (.iload_n 3, 1) := by decide +kernel
theorem dX6_mixWallet_20 : decode cX6_mixWallet 20 = .ok (.invokevirtual 194, 3) := by decide +kernel
theorem dX6_mixWallet_23 : decode cX6_mixWallet 23 = .ok (.i2l, 1) := by decide +kernel
theorem dX6_mixWallet_24 : decode cX6_mixWallet 24 = .ok (.invokevirtual 232, 3) := by decide +kernel
theorem dX6_mixWallet_27 : decode cX6_mixWallet 27 = .ok (.iinc 3 1, 3) := by decide +kernel
theorem dX6_mixWallet_30 : decode cX6_mixWallet 30 = .ok (.goto (-21), 3) := by decide +kernel
theorem dX6_mixWallet_33 : decode cX6_mixWallet 33 = .ok (.aload_n 0, 1) := by decide +kernel
theorem dX6_mixWallet_34 : decode cX6_mixWallet 34 = .ok (.aload_n 0, 1) := by decide +kernel
theorem dX6_mixWallet_35 : decode cX6_mixWallet 35 = .ok (.iload_n 1, 1) := by decide +kernel
theorem dX6_mixWallet_36 : decode cX6_mixWallet 36 = .ok (.iload_n 2, 1) := by decide +kernel
theorem dX6_mixWallet_37 : decode cX6_mixWallet 37 = .ok (.invokevirtual 216, 3) := by decide +kernel
theorem dX6_mixWallet_40 : decode cX6_mixWallet 40 = .ok (.i2l, 1) := by decide +kernel
theorem dX6_mixWallet_41 : decode cX6_mixWallet 41 = .ok (.invokevirtual 232, 3) := by decide +kernel
theorem dX6_mixWallet_44 : decode cX6_mixWallet 44 = .ok (.aload_n 0, 1) := by decide +kernel
theorem dX6_mixWallet_45 : decode cX6_mixWallet 45 = .ok (.aload_n 0, 1) := by decide +kernel
theorem dX6_mixWallet_46 : decode cX6_mixWallet 46 = .ok (.iload_n 1, 1) := by decide +kernel
theorem dX6_mixWallet_47 : decode cX6_mixWallet 47 = .ok (.iload_n 2, 1) := by decide +kernel
theorem dX6_mixWallet_48 : decode cX6_mixWallet 48 = .ok (.invokevirtual 222, 3) := by decide +kernel
theorem dX6_mixWallet_51 : decode cX6_mixWallet 51 = .ok (.invokestatic 236, 3) := by decide +kernel
theorem dX6_mixWallet_54 : decode cX6_mixWallet 54 = .ok (.invokevirtual 232, 3) := by decide +kernel
theorem dX6_mixWallet_57 : decode cX6_mixWallet 57 = .ok (.iinc 2 1, 3) := by decide +kernel
theorem dX6_mixWallet_60 : decode cX6_mixWallet 60 = .ok (.goto (-58), 3) := by decide +kernel
theorem dX6_mixWallet_63 : decode cX6_mixWallet 63 = .ok (.aload_n 0, 1) := by decide +kernel
theorem dX6_mixWallet_64 : decode cX6_mixWallet 64 = .ok (.aload_n 0, 1) := by decide +kernel
theorem dX6_mixWallet_65 : decode cX6_mixWallet 65 = .ok (.iload_n 1, 1) := by decide +kernel
theorem dX6_mixWallet_66 : decode cX6_mixWallet 66 = .ok (.iconst 0, 1) := by decide +kernel
theorem dX6_mixWallet_67 : decode cX6_mixWallet 67 = .ok (.iconst 1, 1) := by decide +kernel
theorem dX6_mixWallet_68 : decode cX6_mixWallet 68 = .ok (.sipush 1000, 3) := by decide +kernel
theorem dX6_mixWallet_71 : decode cX6_mixWallet 71 = .ok (.invokevirtual 209, 3) := by decide +kernel
theorem dX6_mixWallet_74 : decode cX6_mixWallet 74 = .ok (.i2l, 1) := by decide +kernel
theorem dX6_mixWallet_75 : decode cX6_mixWallet 75 = .ok (.invokevirtual 232, 3) := by decide +kernel
theorem dX6_mixWallet_78 : decode cX6_mixWallet 78 = .ok (.aload_n 0, 1) := by decide +kernel
theorem dX6_mixWallet_79 : decode cX6_mixWallet 79 = .ok (.aload_n 0, 1) := by decide +kernel
theorem dX6_mixWallet_80 : decode cX6_mixWallet 80 = .ok (.iload_n 1, 1) := by decide +kernel
theorem dX6_mixWallet_81 : decode cX6_mixWallet 81 = .ok (.iconst 2, 1) := by decide +kernel
theorem dX6_mixWallet_82 : decode cX6_mixWallet 82 = .ok (.iconst 0, 1) := by decide +kernel
theorem dX6_mixWallet_83 : decode cX6_mixWallet 83 = .ok (.sipush 1000, 3) := by decide +kernel
theorem dX6_mixWallet_86 : decode cX6_mixWallet 86 = .ok (.invokevirtual 209, 3) := by decide +kernel
theorem dX6_mixWallet_89 : decode cX6_mixWallet 89 = .ok (.i2l, 1) := by decide +kernel
theorem dX6_mixWallet_90 : decode cX6_mixWallet 90 = .ok (.invokevirtual 232, 3) := by decide +kernel
theorem dX6_mixWallet_93 : decode cX6_mixWallet 93 = .ok (.aload_n 0, 1) := by decide +kernel
theorem dX6_mixWallet_94 : decode cX6_mixWallet 94 = .ok (.aload_n 0, 1) := by decide +kernel
theorem dX6_mixWallet_95 : decode cX6_mixWallet 95 = .ok (.iload_n 1, 1) := by decide +kernel
theorem dX6_mixWallet_96 : decode cX6_mixWallet 96 = .ok (.iconst 3, 1) := by decide +kernel
theorem dX6_mixWallet_97 : decode cX6_mixWallet 97 = .ok (.sipush 500, 3) := by decide +kernel
theorem dX6_mixWallet_100 : decode cX6_mixWallet 100 = .ok (.invokevirtual 213, 3) := by decide +kernel
theorem dX6_mixWallet_103 : decode cX6_mixWallet 103 = .ok (.i2l, 1) := by decide +kernel
theorem dX6_mixWallet_104 : decode cX6_mixWallet 104 = .ok (.invokevirtual 232, 3) := by decide +kernel
theorem dX6_mixWallet_107 : decode cX6_mixWallet 107 = .ok (.aload_n 0, 1) := by decide +kernel
theorem dX6_mixWallet_108 : decode cX6_mixWallet 108 = .ok (.aload_n 0, 1) := by decide +kernel
theorem dX6_mixWallet_109 : decode cX6_mixWallet 109 = .ok (.iload_n 1, 1) := by decide +kernel
theorem dX6_mixWallet_110 : decode cX6_mixWallet 110 = .ok (.invokevirtual 148, 3) := by decide +kernel
theorem dX6_mixWallet_113 : decode cX6_mixWallet 113 = .ok (.i2l, 1) := by decide +kernel
theorem dX6_mixWallet_114 : decode cX6_mixWallet 114 = .ok (.invokevirtual 232, 3) := by decide +kernel
theorem dX6_mixWallet_117 : decode cX6_mixWallet 117 = .ok (.aload_n 0, 1) := by decide +kernel
theorem dX6_mixWallet_118 : decode cX6_mixWallet 118 = .ok (.aload_n 0, 1) := by decide +kernel
theorem dX6_mixWallet_119 : decode cX6_mixWallet 119 = .ok (.iload_n 1, 1) := by decide +kernel
theorem dX6_mixWallet_120 : decode cX6_mixWallet 120 = .ok (.invokevirtual 219, 3) := by decide +kernel
theorem dX6_mixWallet_123 : decode cX6_mixWallet 123 = .ok (.i2l, 1) := by decide +kernel
theorem dX6_mixWallet_124 : decode cX6_mixWallet 124 = .ok (.invokevirtual 232, 3) := by decide +kernel
theorem dX6_mixWallet_127 : decode cX6_mixWallet 127 = .ok (.return_, 1) := by decide +kernel
theorem dX6_digest_0 : decode cX6_digest 0 = .ok (.aload_n 0, 1) := by decide +kernel
theorem dX6_digest_1 : decode cX6_digest 1 = .ok (.iconst 0, 1) := by decide +kernel
theorem dX6_digest_2 : decode cX6_digest 2 = .ok (.putfield 22, 3) := by decide +kernel
theorem dX6_digest_5 : decode cX6_digest 5 = .ok (.aload_n 0, 1) := by decide +kernel
theorem dX6_digest_6 : decode cX6_digest 6 = .ok (.ldc2_w 242, 3) := by decide +kernel
theorem dX6_digest_9 : decode cX6_digest 9 = .ok (.putfield 228, 3) := by decide +kernel
theorem dX6_digest_12 : decode cX6_digest 12 = .ok (.iconst 0, 1) := by decide +kernel
theorem dX6_digest_13 : decode cX6_digest 13 = .ok (.istore_n 1, 1) := by decide +kernel
theorem dX6_digest_14 : decode cX6_digest 14 = .ok (.iload_n 1, 1) := by decide +kernel
theorem dX6_digest_15 : decode cX6_digest 15 = .ok (.bipush 14, 2) := by decide +kernel
theorem dX6_digest_17 : decode cX6_digest 17 = .ok (.if_icmp .ge 19, 3) := by decide +kernel
theorem dX6_digest_20 : decode cX6_digest 20 = .ok (.aload_n 0, 1) := by decide +kernel
theorem dX6_digest_21 : decode cX6_digest 21 = .ok (.aload_n 0, 1) := by decide +kernel
theorem dX6_digest_22 : decode cX6_digest 22 = .ok (.iload_n 1, 1) := by decide +kernel
theorem dX6_digest_23 : decode cX6_digest 23 = .ok (.invokevirtual 203, 3) := by decide +kernel
theorem dX6_digest_26 : decode cX6_digest 26 = .ok (.i2l, 1) := by decide +kernel
theorem dX6_digest_27 : decode cX6_digest 27 = .ok (.invokevirtual 232, 3) := by decide +kernel
theorem dX6_digest_30 : decode cX6_digest 30 = .ok (.iinc 1 1, 3) := by decide +kernel
theorem dX6_digest_33 : decode cX6_digest 33 = .ok (.goto (-19), 3) := by decide +kernel
theorem dX6_digest_36 : decode cX6_digest 36 = .ok (.iconst 0, 1) := by decide +kernel
theorem dX6_digest_37 : decode cX6_digest 37 = .ok (.istore_n 1, 1) := by decide +kernel
theorem dX6_digest_38 : decode cX6_digest 38 = .ok (.iload_n 1, 1) := by decide +kernel
theorem dX6_digest_39 : decode cX6_digest 39 = .ok (.iconst 4, 1) := by decide +kernel
theorem dX6_digest_40 : decode cX6_digest 40 = .ok (.if_icmp .ge 20, 3) := by decide +kernel
theorem dX6_digest_43 : decode cX6_digest 43 = .ok (.aload_n 0, 1) := by decide +kernel
theorem dX6_digest_44 : decode cX6_digest 44 = .ok (.aload_n 0, 1) := by decide +kernel
theorem dX6_digest_45 : decode cX6_digest 45 = .ok (.getfield 7, 3) := by decide +kernel
theorem dX6_digest_48 : decode cX6_digest 48 = .ok (.iload_n 1, 1) := by decide +kernel
theorem dX6_digest_49 : decode cX6_digest 49 = .ok (.iaload, 1) := by decide +kernel
theorem dX6_digest_50 : decode cX6_digest 50 = .ok (.i2l, 1) := by decide +kernel
theorem dX6_digest_51 : decode cX6_digest 51 = .ok (.invokevirtual 232, 3) := by decide +kernel
theorem dX6_digest_54 : decode cX6_digest 54 = .ok (.iinc 1 1, 3) := by decide +kernel
theorem dX6_digest_57 : decode cX6_digest 57 = .ok (.goto (-19), 3) := by decide +kernel
theorem dX6_digest_60 : decode cX6_digest 60 = .ok (.iconst 0, 1) := by decide +kernel
theorem dX6_digest_61 : decode cX6_digest 61 = .ok (.istore_n 1, 1) := by decide +kernel
theorem dX6_digest_62 : decode cX6_digest 62 = .ok (.iload_n 1, 1) := by decide +kernel
theorem dX6_digest_63 : decode cX6_digest 63 = .ok (.iconst 4, 1) := by decide +kernel
theorem dX6_digest_64 : decode cX6_digest 64 = .ok (.if_icmp .ge 14, 3) := by decide +kernel
theorem dX6_digest_67 : decode cX6_digest 67 = .ok (.aload_n 0, 1) := by decide +kernel
theorem dX6_digest_68 : decode cX6_digest 68 = .ok (.iload_n 1, 1) := by decide +kernel
theorem dX6_digest_69 : decode cX6_digest 69 = .ok (.invokevirtual 244, 3) := by decide +kernel
theorem dX6_digest_72 : decode cX6_digest 72 = .ok (.iinc 1 1, 3) := by decide +kernel
theorem dX6_digest_75 : decode cX6_digest 75 = .ok (.goto (-13), 3) := by decide +kernel
theorem dX6_digest_78 : decode cX6_digest 78 = .ok (.iconst 0, 1) := by decide +kernel
theorem dX6_digest_79 : decode cX6_digest 79 = .ok (.istore_n 1, 1) := by decide +kernel
theorem dX6_digest_80 : decode cX6_digest 80 = .ok (.iload_n 1, 1) := by decide +kernel
theorem dX6_digest_81 : decode cX6_digest 81 = .ok (.iconst 5, 1) := by decide +kernel
theorem dX6_digest_82 : decode cX6_digest 82 = .ok (.aload_n 0, 1) := by decide +kernel
theorem dX6_digest_83 : decode cX6_digest 83 = .ok (.getfield 7, 3) := by decide +kernel
theorem dX6_digest_86 : decode cX6_digest 86 = .ok (.bipush 8, 2) := by decide +kernel
theorem dX6_digest_88 : decode cX6_digest 88 = .ok (.iaload, 1) := by decide +kernel
theorem dX6_digest_89 : decode cX6_digest 89 = .ok (.imul, 1) := by decide +kernel
theorem dX6_digest_90 : decode cX6_digest 90 = .ok (.if_icmp .ge 23, 3) := by decide +kernel
theorem dX6_digest_93 : decode cX6_digest 93 = .ok (.aload_n 0, 1) := by decide +kernel
theorem dX6_digest_94 : decode cX6_digest 94 = .ok (.aload_n 0, 1) := by decide +kernel
theorem dX6_digest_95 : decode cX6_digest 95 = .ok (.getfield 7, 3) := by decide +kernel
theorem dX6_digest_98 : decode cX6_digest 98 = .ok (.bipush 96, 2) := by decide +kernel
theorem dX6_digest_100 : decode cX6_digest 100 = .ok (.iload_n 1, 1) := by decide +kernel
theorem dX6_digest_101 : decode cX6_digest 101 = .ok (.iadd, 1) := by decide +kernel
theorem dX6_digest_102 : decode cX6_digest 102 = .ok (.iaload, 1) := by decide +kernel
theorem dX6_digest_103 : decode cX6_digest 103 = .ok (.i2l, 1) := by decide +kernel
theorem dX6_digest_104 : decode cX6_digest 104 = .ok (.invokevirtual 232, 3) := by decide +kernel
theorem dX6_digest_107 : decode cX6_digest 107 = .ok (.iinc 1 1, 3) := by decide +kernel
theorem dX6_digest_110 : decode cX6_digest 110 = .ok (.goto (-30), 3) := by decide +kernel
theorem dX6_digest_113 : decode cX6_digest 113 = .ok (.iconst 0, 1) := by decide +kernel
theorem dX6_digest_114 : decode cX6_digest 114 = .ok (.istore_n 1, 1) := by decide +kernel
theorem dX6_digest_115 : decode cX6_digest 115 = .ok (.iload_n 1, 1) := by decide +kernel
theorem dX6_digest_116 : decode cX6_digest 116 = .ok (.bipush 6, 2) := by decide +kernel
theorem dX6_digest_118 : decode cX6_digest 118 = .ok (.aload_n 0, 1) := by decide +kernel
theorem dX6_digest_119 : decode cX6_digest 119 = .ok (.getfield 7, 3) := by decide +kernel
theorem dX6_digest_122 : decode cX6_digest 122 = .ok (.bipush 9, 2) := by decide +kernel
theorem dX6_digest_124 : decode cX6_digest 124 = .ok (.iaload, 1) := by decide +kernel
theorem dX6_digest_125 : decode cX6_digest 125 = .ok (.imul, 1) := by decide +kernel
theorem dX6_digest_126 : decode cX6_digest 126 = .ok (.if_icmp .ge 26, 3) := by decide +kernel
theorem dX6_digest_129 : decode cX6_digest 129 = .ok (.aload_n 0, 1) := by decide +kernel
theorem dX6_digest_130 : decode cX6_digest 130 = .ok (.aload_n 0, 1) := by decide +kernel
theorem dX6_digest_131 : decode cX6_digest 131 = .ok (.iload_n 1, 1) := by decide +kernel
theorem dX6_digest_132 : decode cX6_digest 132 = .ok (.bipush 6, 2) := by decide +kernel
theorem dX6_digest_134 : decode cX6_digest 134 = .ok (.idiv, 1) := by decide +kernel
theorem dX6_digest_135 : decode cX6_digest 135 = .ok (.iload_n 1, 1) := by decide +kernel
theorem dX6_digest_136 : decode cX6_digest 136 = .ok (.bipush 6, 2) := by decide +kernel
theorem dX6_digest_138 : decode cX6_digest 138 = .ok (.irem, 1) := by decide +kernel
theorem dX6_digest_139 : decode cX6_digest 139 = .ok (.invokevirtual 197, 3) := by decide +kernel
theorem dX6_digest_142 : decode cX6_digest 142 = .ok (.i2l, 1) := by decide +kernel
theorem dX6_digest_143 : decode cX6_digest 143 = .ok (.invokevirtual 232, 3) := by decide +kernel
theorem dX6_digest_146 : decode cX6_digest 146 = .ok (.iinc 1 1, 3) := by decide +kernel
theorem dX6_digest_149 : decode cX6_digest 149 = .ok (.goto (-34), 3) := by decide +kernel
theorem dX6_digest_152 : decode cX6_digest 152 = .ok (.aload_n 0, 1) := by decide +kernel
theorem dX6_digest_153 : decode cX6_digest 153 = .ok (.aload_n 0, 1) := by decide +kernel
theorem dX6_digest_154 : decode cX6_digest 154 = .ok (.getfield 164, 3) := by decide +kernel
theorem dX6_digest_157 : decode cX6_digest 157 = .ok (.i2l, 1) := by decide +kernel
theorem dX6_digest_158 : decode cX6_digest 158 = .ok (.invokevirtual 232, 3) := by decide +kernel
theorem dX6_digest_161 : decode cX6_digest 161 = .ok (.iconst 0, 1) := by decide +kernel
theorem dX6_digest_162 : decode cX6_digest 162 = .ok (.istore_n 1, 1) := by decide +kernel
theorem dX6_digest_163 : decode cX6_digest 163 = .ok (.iload_n 1, 1) := by decide +kernel
theorem dX6_digest_164 : decode cX6_digest 164 = .ok (.aload_n 0, 1) := by decide +kernel
theorem dX6_digest_165 : decode cX6_digest 165 = .ok (.getfield 164, 3) := by decide +kernel
theorem dX6_digest_168 : decode cX6_digest 168 = .ok (.if_icmp .ge 20, 3) := by decide +kernel
theorem dX6_digest_171 : decode cX6_digest 171 = .ok (.aload_n 0, 1) := by decide +kernel
theorem dX6_digest_172 : decode cX6_digest 172 = .ok (.aload_n 0, 1) := by decide +kernel
theorem dX6_digest_173 : decode cX6_digest 173 = .ok (.getfield 16, 3) := by decide +kernel
theorem dX6_digest_176 : decode cX6_digest 176 = .ok (.iload_n 1, 1) := by decide +kernel
theorem dX6_digest_177 : decode cX6_digest 177 = .ok (.iaload, 1) := by decide +kernel
theorem dX6_digest_178 : decode cX6_digest 178 = .ok (.i2l, 1) := by decide +kernel
theorem dX6_digest_179 : decode cX6_digest 179 = .ok (.invokevirtual 232, 3) := by decide +kernel
theorem dX6_digest_182 : decode cX6_digest 182 = .ok (.iinc 1 1, 3) := by decide +kernel
theorem dX6_digest_185 : decode cX6_digest 185 = .ok (.goto (-22), 3) := by decide +kernel
theorem dX6_digest_188 : decode cX6_digest 188 = .ok (.aload_n 0, 1) := by decide +kernel
theorem dX6_digest_189 : decode cX6_digest 189 = .ok (.getfield 228, 3) := by decide +kernel
theorem dX6_digest_192 : decode cX6_digest 192 = .ok (.lreturn, 1) := by decide +kernel
theorem dJxe99ae_isNaN_b9ae7_0 : decode cJxe99ae_isNaN_b9ae7 0 = .ok (.dload_n 0, 1) := by decide +kernel
theorem dJxe99ae_isNaN_b9ae7_1 : decode cJxe99ae_isNaN_b9ae7 1 = .ok (.dload_n 0, 1) := by decide +kernel
theorem dJxe99ae_isNaN_b9ae7_2 : decode cJxe99ae_isNaN_b9ae7 2 = .ok (.dcmp .l, 1) := by decide +kernel
theorem dJxe99ae_isNaN_b9ae7_3 : decode cJxe99ae_isNaN_b9ae7 3 = .ok (.ifCond .eq 7, 3) := by decide +kernel
theorem dJxe99ae_isNaN_b9ae7_6 : decode cJxe99ae_isNaN_b9ae7 6 = .ok (.iconst 1, 1) := by decide +kernel
theorem dJxe99ae_isNaN_b9ae7_7 : decode cJxe99ae_isNaN_b9ae7 7 = .ok (.goto 4, 3) := by decide +kernel
theorem dJxe99ae_isNaN_b9ae7_10 : decode cJxe99ae_isNaN_b9ae7 10 = .ok (.iconst 0, 1) := by decide +kernel
theorem dJxe99ae_isNaN_b9ae7_11 : decode cJxe99ae_isNaN_b9ae7 11 = .ok (.ireturn, 1) := by decide +kernel
theorem dJxe99ae_doubleToLongBits_ccdee_0 : decode cJxe99ae_doubleToLongBits_ccdee 0 = .ok (.dload_n 0, 1) := by decide +kernel
theorem dJxe99ae_doubleToLongBits_ccdee_1 : decode cJxe99ae_doubleToLongBits_ccdee 1 = .ok (.invokestatic 122, 3) := by decide +kernel
theorem dJxe99ae_doubleToLongBits_ccdee_4 : decode cJxe99ae_doubleToLongBits_ccdee 4 = .ok (.ifCond .ne 8, 3) := by decide +kernel
theorem dJxe99ae_doubleToLongBits_ccdee_7 : decode cJxe99ae_doubleToLongBits_ccdee 7 = .ok (.dload_n 0, 1) := by decide +kernel
theorem dJxe99ae_doubleToLongBits_ccdee_8 : decode cJxe99ae_doubleToLongBits_ccdee 8 = .ok (.invokestatic 134, 3) := by decide +kernel
theorem dJxe99ae_doubleToLongBits_ccdee_11 : decode cJxe99ae_doubleToLongBits_ccdee 11 = .ok (.lreturn, 1) := by decide +kernel
theorem dJxe99ae_doubleToLongBits_ccdee_12 : decode cJxe99ae_doubleToLongBits_ccdee 12 = .ok (.ldc2_w 137, 3) := by decide +kernel
theorem dJxe99ae_doubleToLongBits_ccdee_15 : decode cJxe99ae_doubleToLongBits_ccdee 15 = .ok (.lreturn, 1) := by decide +kernel
theorem dJ9_min_7cf53_0 : decode cJ9_min_7cf53 0 = .ok (.iload_n 0, 1) := by decide +kernel
theorem dJ9_min_7cf53_1 : decode cJ9_min_7cf53 1 = .ok (.iload_n 1, 1) := by decide +kernel
theorem dJ9_min_7cf53_2 : decode cJ9_min_7cf53 2 = .ok (.if_icmp .gt 7, 3) := by decide +kernel
theorem dJ9_min_7cf53_5 : decode cJ9_min_7cf53 5 = .ok (.iload_n 0, 1) := by decide +kernel
theorem dJ9_min_7cf53_6 : decode cJ9_min_7cf53 6 = .ok (.goto 4, 3) := by decide +kernel
theorem dJ9_min_7cf53_9 : decode cJ9_min_7cf53 9 = .ok (.iload_n 1, 1) := by decide +kernel
theorem dJ9_min_7cf53_10 : decode cJ9_min_7cf53 10 = .ok (.ireturn, 1) := by decide +kernel
