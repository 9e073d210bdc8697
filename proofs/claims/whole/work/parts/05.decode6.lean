theorem dX6_holds_56 : decode cX6_holds 56 = .ok (.getfield 7, 3) := by decide +kernel
theorem dX6_holds_59 : decode cX6_holds 59 = .ok (.iload 4, 2) := by decide +kernel
theorem dX6_holds_61 : decode cX6_holds 61 = .ok (.iconst 3, 1) := by decide +kernel
theorem dX6_holds_62 : decode cX6_holds 62 = .ok (.iadd, 1) := by decide +kernel
theorem dX6_holds_63 : decode cX6_holds 63 = .ok (.aload_n 0, 1) := by decide +kernel
theorem dX6_holds_64 : decode cX6_holds 64 = .ok (.iload_n 3, 1) := by decide +kernel
theorem dX6_holds_65 : decode cX6_holds 65 = .ok (.invokevirtual 111, 3) := by decide +kernel
theorem dX6_holds_68 : decode cX6_holds 68 = .ok (.iastore, 1) := by decide +kernel
theorem dX6_holds_69 : decode cX6_holds 69 = .ok (.aload_n 0, 1) := by decide +kernel
theorem dX6_holds_70 : decode cX6_holds 70 = .ok (.getfield 7, 3) := by decide +kernel
theorem dX6_holds_73 : decode cX6_holds 73 = .ok (.iload 4, 2) := by decide +kernel
theorem dX6_holds_75 : decode cX6_holds 75 = .ok (.iconst 4, 1) := by decide +kernel
theorem dX6_holds_76 : decode cX6_holds 76 = .ok (.iadd, 1) := by decide +kernel
theorem dX6_holds_77 : decode cX6_holds 77 = .ok (.aload_n 0, 1) := by decide +kernel
theorem dX6_holds_78 : decode cX6_holds 78 = .ok (.getfield 7, 3) := by decide +kernel
theorem dX6_holds_81 : decode cX6_holds 81 = .ok (.iconst 4, 1) := by decide +kernel
theorem dX6_holds_82 : decode cX6_holds 82 = .ok (.iaload, 1) := by decide +kernel
theorem dX6_holds_83 : decode cX6_holds 83 = .ok (.iastore, 1) := by decide +kernel
theorem dX6_holds_84 : decode cX6_holds 84 = .ok (.aload_n 0, 1) := by decide +kernel
theorem dX6_holds_85 : decode cX6_holds 85 = .ok (.getfield 7, 3) := by decide +kernel
theorem dX6_holds_88 : decode cX6_holds 88 = .ok (.bipush 8, 2) := by decide +kernel
theorem dX6_holds_90 : decode cX6_holds 90 = .ok (.iaload, 1) := by decide +kernel
theorem dX6_holds_91 : decode cX6_holds 91 = .ok (.iconst 1, 1) := by decide +kernel
theorem dX6_holds_92 : decode cX6_holds 92 = .ok (.isub, 1) := by decide +kernel
theorem dX6_holds_93 : decode cX6_holds 93 = .ok (.ireturn, 1) := by decide +kernel
theorem dX6_hold_0 : decode cX6_hold 0 = .ok (.aload_n 0, 1) := by decide +kernel
theorem dX6_hold_1 : decode cX6_hold 1 = .ok (.iload_n 1, 1) := by decide +kernel
theorem dX6_hold_2 : decode cX6_hold 2 = .ok (.iload_n 2, 1) := by decide +kernel
theorem dX6_hold_3 : decode cX6_hold 3 = .ok (.invokestatic 40, 3) := by decide +kernel
theorem dX6_hold_6 : decode cX6_hold 6 = .ok (.ifCond .ne 7, 3) := by decide +kernel
theorem dX6_hold_9 : decode cX6_hold 9 = .ok (.iconst 1, 1) := by decide +kernel
theorem dX6_hold_10 : decode cX6_hold 10 = .ok (.goto 29, 3) := by decide +kernel
theorem dX6_hold_13 : decode cX6_hold 13 = .ok (.iload_n 3, 1) := by decide +kernel
theorem dX6_hold_14 : decode cX6_hold 14 = .ok (.invokestatic 62, 3) := by decide +kernel
theorem dX6_hold_17 : decode cX6_hold 17 = .ok (.ifCond .ne 7, 3) := by decide +kernel
theorem dX6_hold_20 : decode cX6_hold 20 = .ok (.iconst 2, 1) := by decide +kernel
theorem dX6_hold_21 : decode cX6_hold 21 = .ok (.goto 18, 3) := by decide +kernel
theorem dX6_hold_24 : decode cX6_hold 24 = .ok (.aload_n 0, 1) := by decide +kernel
theorem dX6_hold_25 : decode cX6_hold 25 = .ok (.iload_n 1, 1) := by decide +kernel
theorem dX6_hold_26 : decode cX6_hold 26 = .ok (.iload_n 2, 1) := by decide +kernel
theorem dX6_hold_27 : decode cX6_hold 27 = .ok (.iload_n 3, 1) := by decide +kernel
theorem dX6_hold_28 : decode cX6_hold 28 = .ok (.invokevirtual 114, 3) := by decide +kernel
theorem dX6_hold_31 : decode cX6_hold 31 = .ok (.ifCond .ne 7, 3) := by decide +kernel
theorem dX6_hold_34 : decode cX6_hold 34 = .ok (.iconst 0, 1) := by decide +kernel
theorem dX6_hold_35 : decode cX6_hold 35 = .ok (.goto 4, 3) := by decide +kernel
theorem dX6_hold_38 : decode cX6_hold 38 = .ok (.iconst 3, 1) := by decide +kernel
theorem dX6_hold_39 : decode cX6_hold 39 = .ok (.putfield 22, 3) := by decide +kernel
theorem dX6_hold_42 : decode cX6_hold 42 = .ok (.aload_n 0, 1) := by decide +kernel
theorem dX6_hold_43 : decode cX6_hold 43 = .ok (.getfield 22, 3) := by decide +kernel
theorem dX6_hold_46 : decode cX6_hold 46 = .ok (.ifCond .le 5, 3) := by decide +kernel
theorem dX6_hold_49 : decode cX6_hold 49 = .ok (.iconst 0, 1) := by decide +kernel
theorem dX6_hold_50 : decode cX6_hold 50 = .ok (.ireturn, 1) := by decide +kernel
theorem dX6_hold_51 : decode cX6_hold 51 = .ok (.aload_n 0, 1) := by decide +kernel
theorem dX6_hold_52 : decode cX6_hold 52 = .ok (.invokevirtual 68, 3) := by decide +kernel
theorem dX6_hold_55 : decode cX6_hold 55 = .ok (.aload_n 0, 1) := by decide +kernel
theorem dX6_hold_56 : decode cX6_hold 56 = .ok (.iload_n 1, 1) := by decide +kernel
theorem dX6_hold_57 : decode cX6_hold 57 = .ok (.iload_n 2, 1) := by decide +kernel
theorem dX6_hold_58 : decode cX6_hold 58 = .ok (.iload_n 3, 1) := by decide +kernel
theorem dX6_hold_59 : decode cX6_hold 59 = .ok (.invokevirtual 117, 3) := by decide +kernel
theorem dX6_hold_62 : decode cX6_hold 62 = .ok (.ireturn, 1) := by decide +kernel
theorem dX6_removeHold_0 : decode cX6_removeHold 0 = .ok (.aload_n 0, 1) := by decide +kernel
theorem dX6_removeHold_1 : decode cX6_removeHold 1 = .ok (.getfield 7, 3) := by decide +kernel
theorem dX6_removeHold_4 : decode cX6_removeHold 4 = .ok (.bipush 8, 2) := by decide +kernel
theorem dX6_removeHold_6 : decode cX6_removeHold 6 = .ok (.dup2, 1) := by decide +kernel
theorem dX6_removeHold_7 : decode cX6_removeHold 7 = .ok (.iaload, 1) := by decide +kernel
theorem dX6_removeHold_8 : decode cX6_removeHold 8 = .ok (.iconst 1, 1) := by decide +kernel
theorem dX6_removeHold_9 : decode cX6_removeHold 9 = .ok (.isub, 1) := by decide +kernel
theorem dX6_removeHold_10 : decode cX6_removeHold 10 = .ok (.iastore, 1) := by decide +kernel
theorem dX6_removeHold_11 : decode cX6_removeHold 11 = .ok (.bipush 96, 2) := by decide +kernel
theorem dX6_removeHold_13 : decode cX6_removeHold 13 = .ok (.iconst 5, 1) := by decide +kernel
theorem dX6_removeHold_14 : decode cX6_removeHold 14 = .ok (.iload_n 1, 1) := by decide +kernel
theorem dX6_removeHold_15 : decode cX6_removeHold 15 = .ok (.imul, 1) := by decide +kernel
theorem dX6_removeHold_16 : decode cX6_removeHold 16 = .ok (.iadd, 1) := by decide +kernel
theorem dX6_removeHold_17 : decode cX6_removeHold 17 = .ok (.istore_n 2, 1) := by decide +kernel
theorem dX6_removeHold_18 : decode cX6_removeHold 18 = .ok (.iload_n 2, 1) := by decide +kernel
theorem dX6_removeHold_19 : decode cX6_removeHold 19 = .ok (.bipush 96, 2) := by decide +kernel
theorem dX6_removeHold_21 : decode cX6_removeHold 21 = .ok (.iconst 5, 1) := by decide +kernel
theorem dX6_removeHold_22 : decode cX6_removeHold 22 = .ok (.aload_n 0, 1) := by decide +kernel
theorem dX6_removeHold_23 : decode cX6_removeHold 23 = .ok (.getfield 7, 3) := by decide +kernel
theorem dX6_removeHold_26 : decode cX6_removeHold 26 = .ok (.bipush 8, 2) := by decide +kernel
theorem dX6_removeHold_28 : decode cX6_removeHold 28 = .ok (.iaload, 1) := by decide +kernel
theorem dX6_removeHold_29 : decode cX6_removeHold 29 = .ok (.imul, 1) := by decide +kernel
theorem dX6_removeHold_30 : decode cX6_removeHold 30 = .ok (.iadd, 1) := by decide +kernel
theorem dX6_removeHold_31 : decode cX6_removeHold 31 = .ok (.if_icmp .ge 23, 3) := by decide +kernel
theorem dX6_removeHold_34 : decode cX6_removeHold 34 = .ok (.aload_n 0, 1) := by decide +kernel
theorem dX6_removeHold_35 : decode cX6_removeHold 35 = .ok (.getfield 7, 3) := by decide +kernel
theorem dX6_removeHold_38 : decode cX6_removeHold 38 = .ok (.iload_n 2, 1) := by decide +kernel
theorem dX6_removeHold_39 : decode cX6_removeHold 39 = .ok (.aload_n 0, 1) := by decide +kernel
theorem dX6_removeHold_40 : decode cX6_removeHold 40 = .ok (.getfield 7, 3) := by decide +kernel
theorem dX6_removeHold_43 : decode cX6_removeHold 43 = .ok (.iload_n 2, 1) := by decide +kernel
theorem dX6_removeHold_44 : decode cX6_removeHold 44 = .ok (.iconst 5, 1) := by decide +kernel
theorem dX6_removeHold_45 : decode cX6_removeHold 45 = .ok (.iadd, 1) := by decide +kernel
theorem dX6_removeHold_46 : decode cX6_removeHold 46 = .ok (.iaload, 1) := by decide +kernel
theorem dX6_removeHold_47 : decode cX6_removeHold 47 = .ok (.iastore, 1) := by decide +kernel
theorem dX6_removeHold_48 : decode cX6_removeHold 48 = .ok (.iinc 2 1, 3) := by decide +kernel
theorem dX6_removeHold_51 : decode cX6_removeHold 51 = .ok (.goto (-33), 3) := by decide +kernel
theorem dX6_removeHold_54 : decode cX6_removeHold 54 = .ok (.return_, 1) := by decide +kernel
theorem dX6_pay_0 : decode cX6_pay 0 = .ok (.aload_n 0, 1) := by decide +kernel
theorem dX6_pay_1 : decode cX6_pay 1 = .ok (.aload_n 0, 1) := by decide +kernel
theorem dX6_pay_2 : decode cX6_pay 2 = .ok (.iload_n 1, 1) := by decide +kernel
theorem dX6_pay_3 : decode cX6_pay 3 = .ok (.invokevirtual 120, 3) := by decide +kernel
theorem dX6_pay_6 : decode cX6_pay 6 = .ok (.ifCond .ne 7, 3) := by decide +kernel
theorem dX6_pay_9 : decode cX6_pay 9 = .ok (.iconst 1, 1) := by decide +kernel
theorem dX6_pay_10 : decode cX6_pay 10 = .ok (.goto 39, 3) := by decide +kernel
theorem dX6_pay_13 : decode cX6_pay 13 = .ok (.iload_n 2, 1) := by decide +kernel
theorem dX6_pay_14 : decode cX6_pay 14 = .ok (.iconst 1, 1) := by decide +kernel
theorem dX6_pay_15 : decode cX6_pay 15 = .ok (.if_icmp .ge 7, 3) := by decide +kernel
theorem dX6_pay_18 : decode cX6_pay 18 = .ok (.iconst 2, 1) := by decide +kernel
theorem dX6_pay_19 : decode cX6_pay 19 = .ok (.goto 30, 3) := by decide +kernel
theorem dX6_pay_22 : decode cX6_pay 22 = .ok (.iload_n 2, 1) := by decide +kernel
theorem dX6_pay_23 : decode cX6_pay 23 = .ok (.aload_n 0, 1) := by decide +kernel
theorem dX6_pay_24 : decode cX6_pay 24 = .ok (.iload_n 1, 1) := by decide +kernel
theorem dX6_pay_25 : decode cX6_pay 25 = .ok (.iconst 3, 1) := by decide +kernel
theorem dX6_pay_26 : decode cX6_pay 26 = .ok (.invokevirtual 52, 3) := by decide +kernel
theorem dX6_pay_29 : decode cX6_pay 29 = .ok (.if_icmp .gt 15, 3) := by decide +kernel
theorem dX6_pay_32 : decode cX6_pay 32 = .ok (.aload_n 0, 1) := by decide +kernel
theorem dX6_pay_33 : decode cX6_pay 33 = .ok (.getfield 7, 3) := by decide +kernel
theorem dX6_pay_36 : decode cX6_pay 36 = .ok (.bipush 9, 2) := by decide +kernel
theorem dX6_pay_38 : decode cX6_pay 38 = .ok (.iaload, 1) := by decide +kernel
theorem dX6_pay_39 : decode cX6_pay 39 = .ok (.bipush 12, 2) := by decide +kernel
theorem dX6_pay_41 : decode cX6_pay 41 = .ok (.if_icmp .ne 7, 3) := by decide +kernel
theorem dX6_pay_44 : decode cX6_pay 44 = .ok (.iconst 3, 1) := by decide +kernel
theorem dX6_pay_45 : decode cX6_pay 45 = .ok (.goto 4, 3) := by decide +kernel
theorem dX6_pay_48 : decode cX6_pay 48 = .ok (.iconst 0, 1) := by decide +kernel
theorem dX6_pay_49 : decode cX6_pay 49 = .ok (.putfield 22, 3) := by decide +kernel
theorem dX6_pay_52 : decode cX6_pay 52 = .ok (.aload_n 0, 1) := by decide +kernel
theorem dX6_pay_53 : decode cX6_pay 53 = .ok (.getfield 22, 3) := by decide +kernel
theorem dX6_pay_56 : decode cX6_pay 56 = .ok (.ifCond .le 5, 3) := by decide +kernel
theorem dX6_pay_59 : decode cX6_pay 59 = .ok (.iconst 0, 1) := by decide +kernel
theorem dX6_pay_60 : decode cX6_pay 60 = .ok (.ireturn, 1) := by decide +kernel
theorem dX6_pay_61 : decode cX6_pay 61 = .ok (.aload_n 0, 1) := by decide +kernel
theorem dX6_pay_62 : decode cX6_pay 62 = .ok (.invokevirtual 68, 3) := by decide +kernel
theorem dX6_pay_65 : decode cX6_pay 65 = .ok (.aload_n 0, 1) := by decide +kernel
theorem dX6_pay_66 : decode cX6_pay 66 = .ok (.getfield 7, 3) := by decide +kernel
theorem dX6_pay_69 : decode cX6_pay 69 = .ok (.bipush 9, 2) := by decide +kernel
theorem dX6_pay_71 : decode cX6_pay 71 = .ok (.iaload, 1) := by decide +kernel
theorem dX6_pay_72 : decode cX6_pay 72 = .ok (.istore_n 3, 1) := by decide +kernel
theorem dX6_pay_73 : decode cX6_pay 73 = .ok (.sipush 136, 3) := by decide +kernel
theorem dX6_pay_76 : decode cX6_pay 76 = .ok (.iconst 5, 1) := by decide +kernel
theorem dX6_pay_77 : decode cX6_pay 77 = .ok (.iload_n 3, 1) := by decide +kernel
theorem dX6_pay_78 : decode cX6_pay 78 = .ok (.imul, 1) := by decide +kernel
theorem dX6_pay_79 : decode cX6_pay 79 = .ok (.iadd, 1) := by decide +kernel
theorem dX6_pay_80 : decode cX6_pay 80 = .ok (.istore 4, 2) := by decide +kernel
theorem dX6_pay_82 : decode cX6_pay 82 = .ok (.aload_n 0, 1) := by decide +kernel
theorem dX6_pay_83 : decode cX6_pay 83 = .ok (.getfield 7, 3) := by decide +kernel
theorem dX6_pay_86 : decode cX6_pay 86 = .ok (.bipush 9, 2) := by decide +kernel
theorem dX6_pay_88 : decode cX6_pay 88 = .ok (.dup2, 1) := by decide +kernel
theorem dX6_pay_89 : decode cX6_pay 89 = .ok (.iaload, 1) := by decide +kernel
theorem dX6_pay_90 : decode cX6_pay 90 = .ok (.iconst 1, 1) := by decide +kernel
theorem dX6_pay_91 : decode cX6_pay 91 = .ok (.iadd, 1) := by decide +kernel
theorem dX6_pay_92 : decode cX6_pay 92 = .ok (.iastore, 1) := by decide +kernel
theorem dX6_pay_93 : decode cX6_pay 93 = .ok (.aload_n 0, 1) := by decide +kernel
theorem dX6_pay_94 : decode cX6_pay 94 = .ok (.getfield 7, 3) := by decide +kernel
theorem dX6_pay_97 : decode cX6_pay 97 = .ok (.iload 4, 2) := by decide +kernel
theorem dX6_pay_99 : decode cX6_pay 99 = .ok (.iconst 0, 1) := by decide +kernel
theorem dX6_pay_100 : decode cX6_pay 100 = .ok (.iadd, 1) := by decide +kernel
theorem dX6_pay_101 : decode cX6_pay 101 = .ok (.aload_n 0, 1) := by decide +kernel
theorem dX6_pay_102 : decode cX6_pay 102 = .ok (.iload_n 1, 1) := by decide +kernel
theorem dX6_pay_103 : decode cX6_pay 103 = .ok (.iconst 0, 1) := by decide +kernel
theorem dX6_pay_104 : decode cX6_pay 104 = .ok (.invokevirtual 52, 3) := by decide +kernel
theorem dX6_pay_107 : decode cX6_pay 107 = .ok (.iastore, 1) := by decide +kernel
theorem dX6_pay_108 : decode cX6_pay 108 = .ok (.aload_n 0, 1) := by decide +kernel
theorem dX6_pay_109 : decode cX6_pay 109 = .ok (.getfield 7, 3) := by decide +kernel
theorem dX6_pay_112 : decode cX6_pay 112 = .ok (.iload 4, 2) := by decide +kernel
theorem dX6_pay_114 : decode cX6_pay 114 = .ok (.iconst 1, 1) := by decide +kernel
theorem dX6_pay_115 : decode cX6_pay 115 = .ok (.iadd, 1) := by decide +kernel
theorem dX6_pay_116 : decode cX6_pay 116 = .ok (.aload_n 0, 1) := by decide +kernel
theorem dX6_pay_117 : decode cX6_pay 117 = .ok (.iload_n 1, 1) := by decide +kernel
theorem dX6_pay_118 : decode cX6_pay 118 = .ok (.iconst 1, 1) := by decide +kernel
theorem dX6_pay_119 : decode cX6_pay 119 = .ok (.invokevirtual 52, 3) := by decide +kernel
theorem dX6_pay_122 : decode cX6_pay 122 = .ok (.iastore, 1) := by decide +kernel
theorem dX6_pay_123 : decode cX6_pay 123 = .ok (.aload_n 0, 1) := by decide +kernel
theorem dX6_pay_124 : decode cX6_pay 124 = .ok (.getfield 7, 3) := by decide +kernel
theorem dX6_pay_127 : decode cX6_pay 127 = .ok (.iload 4, 2) := by decide +kernel
theorem dX6_pay_129 : decode cX6_pay 129 = .ok (.iconst 2, 1) := by decide +kernel
theorem dX6_pay_130 : decode cX6_pay 130 = .ok (.iadd, 1) := by decide +kernel
theorem dX6_pay_131 : decode cX6_pay 131 = .ok (.iload_n 2, 1) := by decide +kernel
theorem dX6_pay_132 : decode cX6_pay 132 = .ok (.iastore, 1) := by decide +kernel
theorem dX6_pay_133 : decode cX6_pay 133 = .ok (.aload_n 0, 1) := by decide +kernel
theorem dX6_pay_134 : decode cX6_pay 134 = .ok (.getfield 7, 3) := by decide +kernel
theorem dX6_pay_137 : decode cX6_pay 137 = .ok (.iload 4, 2) := by decide +kernel
theorem dX6_pay_139 : decode cX6_pay 139 = .ok (.iconst 3, 1) := by decide +kernel
theorem dX6_pay_140 : decode cX6_pay 140 = .ok (.iadd, 1) := by decide +kernel
theorem dX6_pay_141 : decode cX6_pay 141 = .ok (.aload_n 0, 1) := by decide +kernel
theorem dX6_pay_142 : decode cX6_pay 142 = .ok (.getfield 7, 3) := by decide +kernel
theorem dX6_pay_145 : decode cX6_pay 145 = .ok (.iconst 4, 1) := by decide +kernel
theorem dX6_pay_146 : decode cX6_pay 146 = .ok (.iaload, 1) := by decide +kernel
theorem dX6_pay_147 : decode cX6_pay 147 = .ok (.iastore, 1) := by decide +kernel
theorem dX6_pay_148 : decode cX6_pay 148 = .ok (.aload_n 0, 1) := by decide +kernel
theorem dX6_pay_149 : decode cX6_pay 149 = .ok (.getfield 7, 3) := by decide +kernel
theorem dX6_pay_152 : decode cX6_pay 152 = .ok (.iload 4, 2) := by decide +kernel
theorem dX6_pay_154 : decode cX6_pay 154 = .ok (.iconst 4, 1) := by decide +kernel
theorem dX6_pay_155 : decode cX6_pay 155 = .ok (.iadd, 1) := by decide +kernel
theorem dX6_pay_156 : decode cX6_pay 156 = .ok (.iconst 0, 1) := by decide +kernel
theorem dX6_pay_157 : decode cX6_pay 157 = .ok (.iastore, 1) := by decide +kernel
theorem dX6_pay_158 : decode cX6_pay 158 = .ok (.aload_n 0, 1) := by decide +kernel
theorem dX6_pay_159 : decode cX6_pay 159 = .ok (.iload_n 1, 1) := by decide +kernel
theorem dX6_pay_160 : decode cX6_pay 160 = .ok (.invokevirtual 123, 3) := by decide +kernel
theorem dX6_pay_163 : decode cX6_pay 163 = .ok (.aload_n 0, 1) := by decide +kernel
theorem dX6_pay_164 : decode cX6_pay 164 = .ok (.getfield 7, 3) := by decide +kernel
theorem dX6_pay_167 : decode cX6_pay 167 = .ok (.iload 4, 2) := by decide +kernel
theorem dX6_pay_169 : decode cX6_pay 169 = .ok (.iconst 0, 1) := by decide +kernel
theorem dX6_pay_170 : decode cX6_pay 170 = .ok (.iadd, 1) := by decide +kernel
theorem dX6_pay_171 : decode cX6_pay 171 = .ok (.iaload, 1) := by decide +kernel
theorem dX6_pay_172 : decode cX6_pay 172 = .ok (.aload_n 0, 1) := by decide +kernel
theorem dX6_pay_173 : decode cX6_pay 173 = .ok (.getfield 7, 3) := by decide +kernel
theorem dX6_pay_176 : decode cX6_pay 176 = .ok (.iload 4, 2) := by decide +kernel
theorem dX6_pay_178 : decode cX6_pay 178 = .ok (.iconst 1, 1) := by decide +kernel
theorem dX6_pay_179 : decode cX6_pay 179 = .ok (.iadd, 1) := by decide +kernel
theorem dX6_pay_180 : decode cX6_pay 180 = .ok (.iaload, 1) := by decide +kernel
theorem dX6_pay_181 : decode cX6_pay 181 = .ok (.invokestatic 45, 3) := by decide +kernel
theorem dX6_pay_184 : decode cX6_pay 184 = .ok (.istore 5, 2) := by decide +kernel
theorem dX6_pay_186 : decode cX6_pay 186 = .ok (.aload_n 0, 1) := by decide +kernel
theorem dX6_pay_187 : decode cX6_pay 187 = .ok (.getfield 7, 3) := by decide +kernel
theorem dX6_pay_190 : decode cX6_pay 190 = .ok (.iload 5, 2) := by decide +kernel
theorem dX6_pay_192 : decode cX6_pay 192 = .ok (.iconst 0, 1) := by decide +kernel
theorem dX6_pay_193 : decode cX6_pay 193 = .ok (.iadd, 1) := by decide +kernel
theorem dX6_pay_194 : decode cX6_pay 194 = .ok (.dup2, 1) := by decide +kernel
theorem dX6_pay_195 : decode cX6_pay 195 = .ok (.iaload, 1) := by decide +kernel
theorem dX6_pay_196 : decode cX6_pay 196 = .ok (.iload_n 2, 1) := by decide +kernel
theorem dX6_pay_197 : decode cX6_pay 197 = .ok (.isub, 1) := by decide +kernel
theorem dX6_pay_198 : decode cX6_pay 198 = .ok (.iastore, 1) := by decide +kernel
theorem dX6_pay_199 : decode cX6_pay 199 = .ok (.aload_n 0, 1) := by decide +kernel
theorem dX6_pay_200 : decode cX6_pay 200 = .ok (.getfield 7, 3) := by decide +kernel
theorem dX6_pay_203 : decode cX6_pay 203 = .ok (.iload 5, 2) := by decide +kernel
theorem dX6_pay_205 : decode cX6_pay 205 = .ok (.iconst 4, 1) := by decide +kernel
theorem dX6_pay_206 : decode cX6_pay 206 = .ok (.iadd, 1) := by decide +kernel
theorem dX6_pay_207 : decode cX6_pay 207 = .ok (.dup2, 1) := by decide +kernel
theorem dX6_pay_208 : decode cX6_pay 208 = .ok (.iaload, 1) := by decide +kernel
theorem dX6_pay_209 : decode cX6_pay 209 = .ok (.iload_n 2, 1) := by decide +kernel
theorem dX6_pay_210 : decode cX6_pay 210 = .ok (.iadd, 1) := by decide +kernel
theorem dX6_pay_211 : decode cX6_pay 211 = .ok (.iastore, 1) := by decide +kernel
theorem dX6_pay_212 : decode cX6_pay 212 = .ok (.iload_n 3, 1) := by decide +kernel
theorem dX6_pay_213 : decode cX6_pay 213 = .ok (.ireturn, 1) := by decide +kernel
theorem dX6_letGo_0 : decode cX6_letGo 0 = .ok (.aload_n 0, 1) := by decide +kernel
theorem dX6_letGo_1 : decode cX6_letGo 1 = .ok (.aload_n 0, 1) := by decide +kernel
theorem dX6_letGo_2 : decode cX6_letGo 2 = .ok (.iload_n 1, 1) := by decide +kernel
theorem dX6_letGo_3 : decode cX6_letGo 3 = .ok (.invokevirtual 120, 3) := by decide +kernel
theorem dX6_letGo_6 : decode cX6_letGo 6 = .ok (.ifCond .eq 7, 3) := by decide +kernel
theorem dX6_letGo_9 : decode cX6_letGo 9 = .ok (.iconst 0, 1) := by decide +kernel
theorem dX6_letGo_10 : decode cX6_letGo 10 = .ok (.goto 4, 3) := by decide +kernel
theorem dX6_letGo_13 : decode cX6_letGo 13 = .ok (.iconst 1, 1) := by decide +kernel
theorem dX6_letGo_14 : decode cX6_letGo 14 = .ok (.putfield 22, 3) := by decide +kernel
theorem dX6_letGo_17 : decode cX6_letGo 17 = .ok (.aload_n 0, 1) := by decide +kernel
theorem dX6_letGo_18 : decode cX6_letGo 18 = .ok (.getfield 22, 3) := by decide +kernel
theorem dX6_letGo_21 : decode cX6_letGo 21 = .ok (.ifCond .le 5, 3) := by decide +kernel
theorem dX6_letGo_24 : decode cX6_letGo 24 = .ok (.iconst 0, 1) := by decide +kernel
theorem dX6_letGo_25 : decode cX6_letGo 25 = .ok (.ireturn, 1) := by decide +kernel
theorem dX6_letGo_26 : decode cX6_letGo 26 = .ok (.aload_n 0, 1) := by decide +kernel
theorem dX6_letGo_27 : decode cX6_letGo 27 = .ok (.invokevirtual 68, 3) := by decide +kernel
theorem dX6_letGo_30 : decode cX6_letGo 30 = .ok (.aload_n 0, 1) := by decide +kernel
theorem dX6_letGo_31 : decode cX6_letGo 31 = .ok (.iload_n 1, 1) := by decide +kernel
theorem dX6_letGo_32 : decode cX6_letGo 32 = .ok (.iconst 3, 1) := by decide +kernel
theorem dX6_letGo_33 : decode cX6_letGo 33 = .ok (.invokevirtual 52, 3) := by decide +kernel
theorem dX6_letGo_36 : decode cX6_letGo 36 = .ok (.istore_n 2, 1) := by decide +kernel
theorem dX6_letGo_37 : decode cX6_letGo 37 = .ok (.aload_n 0, 1) := by decide +kernel
theorem dX6_letGo_38 : decode cX6_letGo 38 = .ok (.iload_n 1, 1) := by decide +kernel
theorem dX6_letGo_39 : decode cX6_letGo 39 = .ok (.invokevirtual 123, 3) := by decide +kernel
theorem dX6_letGo_42 : decode cX6_letGo 42 = .ok (.iload_n 2, 1) := by decide +kernel
theorem dX6_letGo_43 : decode cX6_letGo 43 = .ok (.ireturn, 1) := by decide +kernel
theorem dX6_canDispute_0 : decode cX6_canDispute 0 = .ok (.aload_n 0, 1) := by decide +kernel
theorem dX6_canDispute_1 : decode cX6_canDispute 1 = .ok (.iload_n 1, 1) := by decide +kernel
theorem dX6_canDispute_2 : decode cX6_canDispute 2 = .ok (.iconst 4, 1) := by decide +kernel
theorem dX6_canDispute_3 : decode cX6_canDispute 3 = .ok (.invokevirtual 127, 3) := by decide +kernel
theorem dX6_canDispute_6 : decode cX6_canDispute 6 = .ok (.ifCond .ne 25, 3) := by decide +kernel
theorem dX6_canDispute_9 : decode cX6_canDispute 9 = .ok (.aload_n 0, 1) := by decide +kernel
theorem dX6_canDispute_10 : decode cX6_canDispute 10 = .ok (.getfield 7, 3) := by decide +kernel
theorem dX6_canDispute_13 : decode cX6_canDispute 13 = .ok (.iconst 4, 1) := by decide +kernel
theorem dX6_canDispute_14 : decode cX6_canDispute 14 = .ok (.iaload, 1) := by decide +kernel
theorem dX6_canDispute_15 : decode cX6_canDispute 15 = .ok (.aload_n 0, 1) := by decide +kernel
theorem dX6_canDispute_16 : decode cX6_canDispute 16 = .ok (.iload_n 1, 1) := by decide +kernel
theorem dX6_canDispute_17 : decode cX6_canDispute 17 = .ok (.iconst 3, 1) := by decide +kernel
theorem dX6_canDispute_18 : decode cX6_canDispute 18 = .ok (.invokevirtual 127, 3) := by decide +kernel
theorem dX6_canDispute_21 : decode cX6_canDispute 21 = .ok (.bipush 30, 2) := by decide +kernel
theorem dX6_canDispute_23 : decode cX6_canDispute 23 = .ok (.iadd, 1) := by decide +kernel
theorem dX6_canDispute_24 : decode cX6_canDispute 24 = .ok (.if_icmp .gt 7, 3) := by decide +kernel
theorem dX6_canDispute_27 : decode cX6_canDispute 27 = .ok (.iconst 1, 1) := by decide +kernel
theorem dX6_canDispute_28 : decode cX6_canDispute 28 = .ok (.goto 4, 3) := by decide +kernel
theorem dX6_canDispute_31 : decode cX6_canDispute 31 = .ok (.iconst 0, 1) := by decide +kernel
theorem dX6_canDispute_32 : decode cX6_canDispute 32 = .ok (.ireturn, 1) := by decide +kernel
theorem dX6_dispute_0 : decode cX6_dispute 0 = .ok (.aload_n 0, 1) := by decide +kernel
theorem dX6_dispute_1 : decode cX6_dispute 1 = .ok (.aload_n 0, 1) := by decide +kernel
theorem dX6_dispute_2 : decode cX6_dispute 2 = .ok (.iload_n 1, 1) := by decide +kernel
theorem dX6_dispute_3 : decode cX6_dispute 3 = .ok (.invokevirtual 130, 3) := by decide +kernel
theorem dX6_dispute_6 : decode cX6_dispute 6 = .ok (.ifCond .ne 7, 3) := by decide +kernel
theorem dX6_dispute_9 : decode cX6_dispute 9 = .ok (.iconst 1, 1) := by decide +kernel
theorem dX6_dispute_10 : decode cX6_dispute 10 = .ok (.goto 16, 3) := by decide +kernel
theorem dX6_dispute_13 : decode cX6_dispute 13 = .ok (.aload_n 0, 1) := by decide +kernel
theorem dX6_dispute_14 : decode cX6_dispute 14 = .ok (.iload_n 1, 1) := by decide +kernel
theorem dX6_dispute_15 : decode cX6_dispute 15 = .ok (.invokevirtual 133, 3) := by decide +kernel
theorem dX6_dispute_18 : decode cX6_dispute 18 = .ok (.ifCond .eq 7, 3) := by decide +kernel
theorem dX6_dispute_21 : decode cX6_dispute 21 = .ok (.iconst 0, 1) := by decide +kernel
theorem dX6_dispute_22 : decode cX6_dispute 22 = .ok (.goto 4, 3) := by decide +kernel
theorem dX6_dispute_25 : decode cX6_dispute 25 = .ok (.iconst 2, 1) := by decide +kernel
theorem dX6_dispute_26 : decode cX6_dispute 26 = .ok (.putfield 22, 3) := by decide +kernel
theorem dX6_dispute_29 : decode cX6_dispute 29 = .ok (.aload_n 0, 1) := by decide +kernel
theorem dX6_dispute_30 : decode cX6_dispute 30 = .ok (.getfield 22, 3) := by decide +kernel
theorem dX6_dispute_33 : decode cX6_dispute 33 = .ok (.ifCond .le 5, 3) := by decide +kernel
theorem dX6_dispute_36 : decode cX6_dispute 36 = .ok (.iconst 0, 1) := by decide +kernel
theorem dX6_dispute_37 : decode cX6_dispute 37 = .ok (.ireturn, 1) := by decide +kernel
theorem dX6_dispute_38 : decode cX6_dispute 38 = .ok (.aload_n 0, 1) := by decide +kernel
theorem dX6_dispute_39 : decode cX6_dispute 39 = .ok (.invokevirtual 68, 3) := by decide +kernel
theorem dX6_dispute_42 : decode cX6_dispute 42 = .ok (.aload_n 0, 1) := by decide +kernel
theorem dX6_dispute_43 : decode cX6_dispute 43 = .ok (.iload_n 1, 1) := by decide +kernel
theorem dX6_dispute_44 : decode cX6_dispute 44 = .ok (.iconst 0, 1) := by decide +kernel
theorem dX6_dispute_45 : decode cX6_dispute 45 = .ok (.invokevirtual 127, 3) := by decide +kernel
theorem dX6_dispute_48 : decode cX6_dispute 48 = .ok (.istore_n 2, 1) := by decide +kernel
theorem dX6_dispute_49 : decode cX6_dispute 49 = .ok (.aload_n 0, 1) := by decide +kernel
theorem dX6_dispute_50 : decode cX6_dispute 50 = .ok (.iload_n 1, 1) := by decide +kernel
theorem dX6_dispute_51 : decode cX6_dispute 51 = .ok (.iconst 1, 1) := by decide +kernel
theorem dX6_dispute_52 : decode cX6_dispute 52 = .ok (.invokevirtual 127, 3) := by decide +kernel
theorem dX6_dispute_55 : decode cX6_dispute 55 = .ok (.istore_n 3, 1) := by decide +kernel
theorem dX6_dispute_56 : decode cX6_dispute 56 = .ok (.aload_n 0, 1) := by decide +kernel
theorem dX6_dispute_57 : decode cX6_dispute 57 = .ok (.getfield 7, 3) := by decide +kernel
theorem dX6_dispute_60 : decode cX6_dispute 60 = .ok (.sipush 136, 3) := by decide +kernel
theorem dX6_dispute_63 : decode cX6_dispute 63 = .ok (.iconst 5, 1) := by decide +kernel
theorem dX6_dispute_64 : decode cX6_dispute 64 = .ok (.iload_n 1, 1) := by decide +kernel
theorem dX6_dispute_65 : decode cX6_dispute 65 = .ok (.imul, 1) := by decide +kernel
theorem dX6_dispute_66 : decode cX6_dispute 66 = .ok (.iadd, 1) := by decide +kernel
theorem dX6_dispute_67 : decode cX6_dispute 67 = .ok (.iconst 4, 1) := by decide +kernel
theorem dX6_dispute_68 : decode cX6_dispute 68 = .ok (.iadd, 1) := by decide +kernel
theorem dX6_dispute_69 : decode cX6_dispute 69 = .ok (.iconst 1, 1) := by decide +kernel
theorem dX6_dispute_70 : decode cX6_dispute 70 = .ok (.iastore, 1) := by decide +kernel
theorem dX6_dispute_71 : decode cX6_dispute 71 = .ok (.aload_n 0, 1) := by decide +kernel
theorem dX6_dispute_72 : decode cX6_dispute 72 = .ok (.iload_n 2, 1) := by decide +kernel
theorem dX6_dispute_73 : decode cX6_dispute 73 = .ok (.iload_n 3, 1) := by decide +kernel
theorem dX6_dispute_74 : decode cX6_dispute 74 = .ok (.aload_n 0, 1) := by decide +kernel
theorem dX6_dispute_75 : decode cX6_dispute 75 = .ok (.iload_n 1, 1) := by decide +kernel
theorem dX6_dispute_76 : decode cX6_dispute 76 = .ok (.iconst 2, 1) := by decide +kernel
theorem dX6_dispute_77 : decode cX6_dispute 77 = .ok (.invokevirtual 127, 3) := by decide +kernel
theorem dX6_dispute_80 : decode cX6_dispute 80 = .ok (.invokevirtual 76, 3) := by decide +kernel
theorem dX6_dispute_83 : decode cX6_dispute 83 = .ok (.aload_n 0, 1) := by decide +kernel
theorem dX6_dispute_84 : decode cX6_dispute 84 = .ok (.iload_n 2, 1) := by decide +kernel
theorem dX6_dispute_85 : decode cX6_dispute 85 = .ok (.iload_n 3, 1) := by decide +kernel
theorem dX6_dispute_86 : decode cX6_dispute 86 = .ok (.iconst 0, 1) := by decide +kernel
theorem dX6_dispute_87 : decode cX6_dispute 87 = .ok (.invokevirtual 55, 3) := by decide +kernel
theorem dX6_dispute_90 : decode cX6_dispute 90 = .ok (.ireturn, 1) := by decide +kernel
theorem dX6_takesBack_0 : decode cX6_takesBack 0 = .ok (.aload_n 0, 1) := by decide +kernel
theorem dX6_takesBack_1 : decode cX6_takesBack 1 = .ok (.iload_n 1, 1) := by decide +kernel
theorem dX6_takesBack_2 : decode cX6_takesBack 2 = .ok (.iload_n 2, 1) := by decide +kernel
theorem dX6_takesBack_3 : decode cX6_takesBack 3 = .ok (.invokevirtual 102, 3) := by decide +kernel
theorem dX6_takesBack_6 : decode cX6_takesBack 6 = .ok (.istore 4, 2) := by decide +kernel
theorem dX6_takesBack_8 : decode cX6_takesBack 8 = .ok (.iload 4, 2) := by decide +kernel
theorem dX6_takesBack_10 : decode cX6_takesBack 10 = .ok (.iload_n 3, 1) := by decide +kernel
theorem dX6_takesBack_11 : decode cX6_takesBack 11 = .ok (.if_icmp .ge 8, 3) := by decide +kernel
theorem dX6_takesBack_14 : decode cX6_takesBack 14 = .ok (.iload 4, 2) := by decide +kernel
theorem dX6_takesBack_16 : decode cX6_takesBack 16 = .ok (.goto 4, 3) := by decide +kernel
theorem dX6_takesBack_19 : decode cX6_takesBack 19 = .ok (.iload_n 3, 1) := by decide +kernel
theorem dX6_takesBack_20 : decode cX6_takesBack 20 = .ok (.istore 5, 2) := by decide +kernel
theorem dX6_takesBack_22 : decode cX6_takesBack 22 = .ok (.aload_n 0, 1) := by decide +kernel
theorem dX6_takesBack_23 : decode cX6_takesBack 23 = .ok (.getfield 7, 3) := by decide +kernel
theorem dX6_takesBack_26 : decode cX6_takesBack 26 = .ok (.iload_n 1, 1) := by decide +kernel
theorem dX6_takesBack_27 : decode cX6_takesBack 27 = .ok (.iload_n 2, 1) := by decide +kernel
theorem dX6_takesBack_28 : decode cX6_takesBack 28 = .ok (.invokestatic 45, 3) := by decide +kernel
theorem dX6_takesBack_31 : decode cX6_takesBack 31 = .ok (.iconst 0, 1) := by decide +kernel
theorem dX6_takesBack_32 : decode cX6_takesBack 32 = .ok (.iadd, 1) := by decide +kernel
theorem dX6_takesBack_33 : decode cX6_takesBack 33 = .ok (.dup2, 1) := by decide +kernel
theorem dX6_takesBack_34 : decode cX6_takesBack 34 = .ok (.iaload, 1) := by decide +kernel
theorem dX6_takesBack_35 : decode cX6_takesBack 35 = .ok (.iload 5, 2) := by decide +kernel
theorem dX6_takesBack_37 : decode cX6_takesBack 37 = .ok (.isub, 1) := by decide +kernel
theorem dX6_takesBack_38 : decode cX6_takesBack 38 = .ok (.iastore, 1) := by decide +kernel
theorem dX6_takesBack_39 : decode cX6_takesBack 39 = .ok (.aload_n 0, 1) := by decide +kernel
theorem dX6_takesBack_40 : decode cX6_takesBack 40 = .ok (.getfield 7, 3) := by decide +kernel
theorem dX6_takesBack_43 : decode cX6_takesBack 43 = .ok (.iload_n 1, 1) := by decide +kernel
theorem dX6_takesBack_44 : decode cX6_takesBack 44 = .ok (.iload_n 2, 1) := by decide +kernel
theorem dX6_takesBack_45 : decode cX6_takesBack 45 = .ok (.invokestatic 45, 3) := by decide +kernel
theorem dX6_takesBack_48 : decode cX6_takesBack 48 = .ok (.iconst 1, 1) := by decide +kernel
theorem dX6_takesBack_49 : decode cX6_takesBack 49 = .ok (.iadd, 1) := by decide +kernel
theorem dX6_takesBack_50 : decode cX6_takesBack 50 = .ok (.dup2, 1) := by decide +kernel
theorem dX6_takesBack_51 : decode cX6_takesBack 51 = .ok (.iaload, 1) := by decide +kernel
theorem dX6_takesBack_52 : decode cX6_takesBack 52 = .ok (.iload_n 3, 1) := by decide +kernel
theorem dX6_takesBack_53 : decode cX6_takesBack 53 = .ok (.iload 5, 2) := by decide +kernel
theorem dX6_takesBack_55 : decode cX6_takesBack 55 = .ok (.isub, 1) := by decide +kernel
theorem dX6_takesBack_56 : decode cX6_takesBack 56 = .ok (.iadd, 1) := by decide +kernel
theorem dX6_takesBack_57 : decode cX6_takesBack 57 = .ok (.iastore, 1) := by decide +kernel
theorem dX6_takesBack_58 : decode cX6_takesBack 58 = .ok (.iload_n 3, 1) := by decide +kernel
theorem dX6_takesBack_59 : decode cX6_takesBack 59 = .ok (.iload 5, 2) := by decide +kernel
theorem dX6_takesBack_61 : decode cX6_takesBack 61 = .ok (.isub, 1) := by decide +kernel
theorem dX6_takesBack_62 : decode cX6_takesBack 62 = .ok (.ireturn, 1) := by decide +kernel
theorem dX6_decide_0 : decode cX6_decide 0 = .ok (.aload_n 0, 1) := by decide +kernel
theorem dX6_decide_1 : decode cX6_decide 1 = .ok (.aload_n 0, 1) := by decide +kernel
theorem dX6_decide_2 : decode cX6_decide 2 = .ok (.iload_n 1, 1) := by decide +kernel
theorem dX6_decide_3 : decode cX6_decide 3 = .ok (.invokevirtual 130, 3) := by decide +kernel
theorem dX6_decide_6 : decode cX6_decide 6 = .ok (.ifCond .ne 7, 3) := by decide +kernel
theorem dX6_decide_9 : decode cX6_decide 9 = .ok (.iconst 1, 1) := by decide +kernel
theorem dX6_decide_10 : decode cX6_decide 10 = .ok (.goto 18, 3) := by decide +kernel
theorem dX6_decide_13 : decode cX6_decide 13 = .ok (.aload_n 0, 1) := by decide +kernel
theorem dX6_decide_14 : decode cX6_decide 14 = .ok (.iload_n 1, 1) := by decide +kernel
theorem dX6_decide_15 : decode cX6_decide 15 = .ok (.iconst 4, 1) := by decide +kernel
theorem dX6_decide_16 : decode cX6_decide 16 = .ok (.invokevirtual 127, 3) := by decide +kernel
theorem dX6_decide_19 : decode cX6_decide 19 = .ok (.iconst 1, 1) := by decide +kernel
theorem dX6_decide_20 : decode cX6_decide 20 = .ok (.if_icmp .ne 7, 3) := by decide +kernel
theorem dX6_decide_23 : decode cX6_decide 23 = .ok (.iconst 0, 1) := by decide +kernel
theorem dX6_decide_24 : decode cX6_decide 24 = .ok (.goto 4, 3) := by decide +kernel
theorem dX6_decide_27 : decode cX6_decide 27 = .ok (.iconst 2, 1) := by decide +kernel
theorem dX6_decide_28 : decode cX6_decide 28 = .ok (.putfield 22, 3) := by decide +kernel
theorem dX6_decide_31 : decode cX6_decide 31 = .ok (.aload_n 0, 1) := by decide +kernel
theorem dX6_decide_32 : decode cX6_decide 32 = .ok (.getfield 22, 3) := by decide +kernel
theorem dX6_decide_35 : decode cX6_decide 35 = .ok (.ifCond .le 5, 3) := by decide +kernel
theorem dX6_decide_38 : decode cX6_decide 38 = .ok (.iconst 0, 1) := by decide +kernel
theorem dX6_decide_39 : decode cX6_decide 39 = .ok (.ireturn, 1) := by decide +kernel
theorem dX6_decide_40 : decode cX6_decide 40 = .ok (.aload_n 0, 1) := by decide +kernel
theorem dX6_decide_41 : decode cX6_decide 41 = .ok (.invokevirtual 68, 3) := by decide +kernel
theorem dX6_decide_44 : decode cX6_decide 44 = .ok (.aload_n 0, 1) := by decide +kernel
theorem dX6_decide_45 : decode cX6_decide 45 = .ok (.getfield 7, 3) := by decide +kernel
theorem dX6_decide_48 : decode cX6_decide 48 = .ok (.sipush 136, 3) := by decide +kernel
theorem dX6_decide_51 : decode cX6_decide 51 = .ok (.iconst 5, 1) := by decide +kernel
theorem dX6_decide_52 : decode cX6_decide 52 = .ok (.iload_n 1, 1) := by decide +kernel
theorem dX6_decide_53 : decode cX6_decide 53 = .ok (.imul, 1) := by decide +kernel
theorem dX6_decide_54 : decode cX6_decide 54 = .ok (.iadd, 1) := by decide +kernel
theorem dX6_decide_55 : decode cX6_decide 55 = .ok (.iconst 4, 1) := by decide +kernel
theorem dX6_decide_56 : decode cX6_decide 56 = .ok (.iadd, 1) := by decide +kernel
theorem dX6_decide_57 : decode cX6_decide 57 = .ok (.iload_n 2, 1) := by decide +kernel
theorem dX6_decide_58 : decode cX6_decide 58 = .ok (.ifCond .eq 7, 3) := by decide +kernel
theorem dX6_decide_61 : decode cX6_decide 61 = .ok (.iconst 2, 1) := by decide +kernel
theorem dX6_decide_62 : decode cX6_decide 62 = .ok (.goto 4, 3) := by decide +kernel
theorem dX6_decide_65 : decode cX6_decide 65 = .ok (.iconst 3, 1) := by decide +kernel
theorem dX6_decide_66 : decode cX6_decide 66 = .ok (.iastore, 1) := by decide +kernel
theorem dX6_decide_67 : decode cX6_decide 67 = .ok (.iload_n 2, 1) := by decide +kernel
theorem dX6_decide_68 : decode cX6_decide 68 = .ok (.ifCond .eq 7, 3) := by decide +kernel
theorem dX6_decide_71 : decode cX6_decide 71 = .ok (.iconst 0, 1) := by decide +kernel
theorem dX6_decide_72 : decode cX6_decide 72 = .ok (.goto 25, 3) := by decide +kernel
theorem dX6_decide_75 : decode cX6_decide 75 = .ok (.aload_n 0, 1) := by decide +kernel
theorem dX6_decide_76 : decode cX6_decide 76 = .ok (.aload_n 0, 1) := by decide +kernel
theorem dX6_decide_77 : decode cX6_decide 77 = .ok (.iload_n 1, 1) := by decide +kernel
theorem dX6_decide_78 : decode cX6_decide 78 = .ok (.iconst 0, 1) := by decide +kernel
theorem dX6_decide_79 : decode cX6_decide 79 = .ok (.invokevirtual 127, 3) := by decide +kernel
theorem dX6_decide_82 : decode cX6_decide 82 = .ok (.aload_n 0, 1) := by decide +kernel
theorem dX6_decide_83 : decode cX6_decide 83 = .ok (.iload_n 1, 1) := by decide +kernel
theorem dX6_decide_84 : decode cX6_decide 84 = .ok (.iconst 1, 1) := by decide +kernel
theorem dX6_decide_85 : decode cX6_decide 85 = .ok (.invokevirtual 127, 3) := by decide +kernel
theorem dX6_decide_88 : decode cX6_decide 88 = .ok (.aload_n 0, 1) := by decide +kernel
theorem dX6_decide_89 : decode cX6_decide 89 = .ok (.iload_n 1, 1) := by decide +kernel
theorem dX6_decide_90 : decode cX6_decide 90 = .ok (.iconst 2, 1) := by decide +kernel
theorem dX6_decide_91 : decode cX6_decide 91 = .ok (.invokevirtual 127, 3) := by decide +kernel
theorem dX6_decide_94 : decode cX6_decide 94 = .ok (.invokevirtual 136, 3) := by decide +kernel
theorem dX6_decide_97 : decode cX6_decide 97 = .ok (.ireturn, 1) := by decide +kernel
theorem dX6_hasHold_0 : decode cX6_hasHold 0 = .ok (.iconst 0, 1) := by decide +kernel
theorem dX6_hasHold_1 : decode cX6_hasHold 1 = .ok (.istore_n 2, 1) := by decide +kernel
theorem dX6_hasHold_2 : decode cX6_hasHold 2 = .ok (.iconst 0, 1) := by decide +kernel
theorem dX6_hasHold_3 : decode cX6_hasHold 3 = .ok (.istore_n 3, 1) := by decide +kernel
theorem dX6_hasHold_4 : decode cX6_hasHold 4 = .ok (.iload_n 3, 1) := by decide +kernel
theorem dX6_hasHold_5 : decode cX6_hasHold 5 = .ok (.aload_n 0, 1) := by decide +kernel
theorem dX6_hasHold_6 : decode cX6_hasHold 6 = .ok (.getfield 7, 3) := by decide +kernel
theorem dX6_hasHold_9 : decode cX6_hasHold 9 = .ok (.bipush 8, 2) := by decide +kernel
theorem dX6_hasHold_11 : decode cX6_hasHold 11 = .ok (.iaload, 1) := by decide +kernel
theorem dX6_hasHold_12 : decode cX6_hasHold 12 = .ok (.if_icmp .ge 29, 3) := by decide +kernel
theorem dX6_hasHold_15 : decode cX6_hasHold 15 = .ok (.iload_n 2, 1) := by decide +kernel
theorem dX6_hasHold_16 : decode cX6_hasHold 16 = .ok (.ifCond .ne 13, 3) := by decide +kernel
theorem dX6_hasHold_19 : decode cX6_hasHold 19 = .ok (.aload_n 0, 1) := by decide +kernel
theorem dX6_hasHold_20 : decode cX6_hasHold 20 = .ok (.iload_n 3, 1) := by decide +kernel
theorem dX6_hasHold_21 : decode cX6_hasHold 21 = .ok (.iconst 0, 1) := by decide +kernel
theorem dX6_hasHold_22 : decode cX6_hasHold 22 = .ok (.invokevirtual 52, 3) := by decide +kernel
theorem dX6_hasHold_25 : decode cX6_hasHold 25 = .ok (.iload_n 1, 1) := by decide +kernel
theorem dX6_hasHold_26 : decode cX6_hasHold 26 = .ok (.if_icmp .ne 7, 3) := by decide +kernel
theorem dX6_hasHold_29 : decode cX6_hasHold 29 = .ok (.iconst 1, 1) := by decide +kernel
theorem dX6_hasHold_30 : decode cX6_hasHold 30 = .ok (.goto 4, 3) := by decide +kernel
theorem dX6_hasHold_33 : decode cX6_hasHold 33 = .ok (.iconst 0, 1) := by decide +kernel
theorem dX6_hasHold_34 : decode cX6_hasHold 34 = .ok (.istore_n 2, 1) := by decide +kernel
theorem dX6_hasHold_35 : decode cX6_hasHold 35 = .ok (.iinc 3 1, 3) := by decide +kernel
theorem dX6_hasHold_38 : decode cX6_hasHold 38 = .ok (.goto (-34), 3) := by decide +kernel
theorem dX6_hasHold_41 : decode cX6_hasHold 41 = .ok (.iload_n 2, 1) := by decide +kernel
theorem dX6_hasHold_42 : decode cX6_hasHold 42 = .ok (.ireturn, 1) := by decide +kernel
theorem dX6_hasDispute_0 : decode cX6_hasDispute 0 = .ok (.iconst 0, 1) := by decide +kernel
theorem dX6_hasDispute_1 : decode cX6_hasDispute 1 = .ok (.istore_n 2, 1) := by decide +kernel
theorem dX6_hasDispute_2 : decode cX6_hasDispute 2 = .ok (.iconst 0, 1) := by decide +kernel
theorem dX6_hasDispute_3 : decode cX6_hasDispute 3 = .ok (.istore_n 3, 1) := by decide +kernel
theorem dX6_hasDispute_4 : decode cX6_hasDispute 4 = .ok (.iload_n 3, 1) := by decide +kernel
theorem dX6_hasDispute_5 : decode cX6_hasDispute 5 = .ok (.aload_n 0, 1) := by decide +kernel
theorem dX6_hasDispute_6 : decode cX6_hasDispute 6 = .ok (.getfield 7, 3) := by decide +kernel
theorem dX6_hasDispute_9 : decode cX6_hasDispute 9 = .ok (.bipush 9, 2) := by decide +kernel
theorem dX6_hasDispute_11 : decode cX6_hasDispute 11 = .ok (.iaload, 1) := by decide +kernel
theorem dX6_hasDispute_12 : decode cX6_hasDispute 12 = .ok (.if_icmp .ge 39, 3) := by decide +kernel
theorem dX6_hasDispute_15 : decode cX6_hasDispute 15 = .ok (.iload_n 2, 1) := by decide +kernel
theorem dX6_hasDispute_16 : decode cX6_hasDispute 16 = .ok (.ifCond .ne 23, 3) := by decide +kernel
theorem dX6_hasDispute_19 : decode cX6_hasDispute 19 = .ok (.aload_n 0, 1) := by decide +kernel
theorem dX6_hasDispute_20 : decode cX6_hasDispute 20 = .ok (.iload_n 3, 1) := by decide +kernel
theorem dX6_hasDispute_21 : decode cX6_hasDispute 21 = .ok (.iconst 0, 1) := by decide +kernel
theorem dX6_hasDispute_22 : decode cX6_hasDispute 22 = .ok (.invokevirtual 127, 3) := by decide +kernel
theorem dX6_hasDispute_25 : decode cX6_hasDispute 25 = .ok (.iload_n 1, 1) := by decide +kernel
theorem dX6_hasDispute_26 : decode cX6_hasDispute 26 = .ok (.if_icmp .ne 17, 3) := by decide +kernel
theorem dX6_hasDispute_29 : decode cX6_hasDispute 29 = .ok (.aload_n 0, 1) := by decide +kernel
theorem dX6_hasDispute_30 : decode cX6_hasDispute 30 = .ok (.iload_n 3, 1) := by decide +kernel
theorem dX6_hasDispute_31 : decode cX6_hasDispute 31 = .ok (.iconst 4, 1) := by decide +kernel
theorem dX6_hasDispute_32 : decode cX6_hasDispute 32 = .ok (.invokevirtual 127, 3) := by decide +kernel
theorem dX6_hasDispute_35 : decode cX6_hasDispute 35 = .ok (.iconst 1, 1) := by decide +kernel
theorem dX6_hasDispute_36 : decode cX6_hasDispute 36 = .ok (.if_icmp .ne 7, 3) := by decide +kernel
theorem dX6_hasDispute_39 : decode cX6_hasDispute 39 = .ok (.iconst 1, 1) := by decide +kernel
theorem dX6_hasDispute_40 : decode cX6_hasDispute 40 = .ok (.goto 4, 3) := by decide +kernel
theorem dX6_hasDispute_43 : decode cX6_hasDispute 43 = .ok (.iconst 0, 1) := by decide +kernel
theorem dX6_hasDispute_44 : decode cX6_hasDispute 44 = .ok (.istore_n 2, 1) := by decide +kernel
theorem dX6_hasDispute_45 : decode cX6_hasDispute 45 = .ok (.iinc 3 1, 3) := by decide +kernel
theorem dX6_hasDispute_48 : decode cX6_hasDispute 48 = .ok (.goto (-44), 3) := by decide +kernel
theorem dX6_hasDispute_51 : decode cX6_hasDispute 51 = .ok (.iload_n 2, 1) := by decide +kernel
theorem dX6_hasDispute_52 : decode cX6_hasDispute 52 = .ok (.ireturn, 1) := by decide +kernel
theorem dX6_hasDebt_0 : decode cX6_hasDebt 0 = .ok (.iconst 0, 1) := by decide +kernel
theorem dX6_hasDebt_1 : decode cX6_hasDebt 1 = .ok (.istore_n 2, 1) := by decide +kernel
theorem dX6_hasDebt_2 : decode cX6_hasDebt 2 = .ok (.iconst 0, 1) := by decide +kernel
theorem dX6_hasDebt_3 : decode cX6_hasDebt 3 = .ok (.istore_n 3, 1) := by decide +kernel
theorem dX6_hasDebt_4 : decode cX6_hasDebt 4 = .ok (.iload_n 3, 1) := by decide +kernel
theorem dX6_hasDebt_5 : decode cX6_hasDebt 5 = .ok (.iconst 4, 1) := by decide +kernel
theorem dX6_hasDebt_6 : decode cX6_hasDebt 6 = .ok (.if_icmp .ge 29, 3) := by decide +kernel
theorem dX6_hasDebt_9 : decode cX6_hasDebt 9 = .ok (.iload_n 2, 1) := by decide +kernel
theorem dX6_hasDebt_10 : decode cX6_hasDebt 10 = .ok (.ifCond .ne 13, 3) := by decide +kernel
theorem dX6_hasDebt_13 : decode cX6_hasDebt 13 = .ok (.aload_n 0, 1) := by decide +kernel
theorem dX6_hasDebt_14 : decode cX6_hasDebt 14 = .ok (.iload_n 1, 1) := by decide +kernel
theorem dX6_hasDebt_15 : decode cX6_hasDebt 15 = .ok (.iload_n 3, 1) := by decide +kernel
theorem dX6_hasDebt_16 : decode cX6_hasDebt 16 = .ok (.iconst 1, 1) := by decide +kernel
theorem dX6_hasDebt_17 : decode cX6_hasDebt 17 = .ok (.invokevirtual 55, 3) := by decide +kernel
theorem dX6_hasDebt_20 : decode cX6_hasDebt 20 = .ok (.ifCond .le 7, 3) := by decide +kernel
theorem dX6_hasDebt_23 : decode cX6_hasDebt 23 = .ok (.iconst 1, 1) := by decide +kernel
theorem dX6_hasDebt_24 : decode cX6_hasDebt 24 = .ok (.goto 4, 3) := by decide +kernel
theorem dX6_hasDebt_27 : decode cX6_hasDebt 27 = .ok (.iconst 0, 1) := by decide +kernel
theorem dX6_hasDebt_28 : decode cX6_hasDebt 28 = .ok (.istore_n 2, 1) := by decide +kernel
theorem dX6_hasDebt_29 : decode cX6_hasDebt 29 = .ok (.iinc 3 1, 3) := by decide +kernel
theorem dX6_hasDebt_32 : decode cX6_hasDebt 32 = .ok (.goto (-28), 3) := by decide +kernel
theorem dX6_hasDebt_35 : decode cX6_hasDebt 35 = .ok (.iload_n 2, 1) := by decide +kernel
theorem dX6_hasDebt_36 : decode cX6_hasDebt 36 = .ok (.ireturn, 1) := by decide +kernel
theorem dX6_whyNoClosing_0 : decode cX6_whyNoClosing 0 = .ok (.aload_n 0, 1) := by decide +kernel
theorem dX6_whyNoClosing_1 : decode cX6_whyNoClosing 1 = .ok (.iload_n 1, 1) := by decide +kernel
theorem dX6_whyNoClosing_2 : decode cX6_whyNoClosing 2 = .ok (.invokevirtual 139, 3) := by decide +kernel
theorem dX6_whyNoClosing_5 : decode cX6_whyNoClosing 5 = .ok (.ifCond .eq 7, 3) := by decide +kernel
theorem dX6_whyNoClosing_8 : decode cX6_whyNoClosing 8 = .ok (.iconst 4, 1) := by decide +kernel
theorem dX6_whyNoClosing_9 : decode cX6_whyNoClosing 9 = .ok (.goto 29, 3) := by decide +kernel
theorem dX6_whyNoClosing_12 : decode cX6_whyNoClosing 12 = .ok (.aload_n 0, 1) := by decide +kernel
theorem dX6_whyNoClosing_13 : decode cX6_whyNoClosing 13 = .ok (.iload_n 1, 1) := by decide +kernel
theorem dX6_whyNoClosing_14 : decode cX6_whyNoClosing 14 = .ok (.invokevirtual 142, 3) := by decide +kernel
theorem dX6_whyNoClosing_17 : decode cX6_whyNoClosing 17 = .ok (.ifCond .eq 7, 3) := by decide +kernel
theorem dX6_whyNoClosing_20 : decode cX6_whyNoClosing 20 = .ok (.iconst 5, 1) := by decide +kernel
theorem dX6_whyNoClosing_21 : decode cX6_whyNoClosing 21 = .ok (.goto 17, 3) := by decide +kernel
theorem dX6_whyNoClosing_24 : decode cX6_whyNoClosing 24 = .ok (.aload_n 0, 1) := by decide +kernel
theorem dX6_whyNoClosing_25 : decode cX6_whyNoClosing 25 = .ok (.iload_n 1, 1) := by decide +kernel
theorem dX6_whyNoClosing_26 : decode cX6_whyNoClosing 26 = .ok (.invokevirtual 145, 3) := by decide +kernel
theorem dX6_whyNoClosing_29 : decode cX6_whyNoClosing 29 = .ok (.ifCond .eq 8, 3) := by decide +kernel
theorem dX6_whyNoClosing_32 : decode cX6_whyNoClosing 32 = .ok (.bipush 6, 2) := by decide +kernel
theorem dX6_whyNoClosing_34 : decode cX6_whyNoClosing 34 = .ok (.goto 4, 3) := by decide +kernel
theorem dX6_whyNoClosing_37 : decode cX6_whyNoClosing 37 = .ok (.iconst 0, 1) := by decide +kernel
theorem dX6_whyNoClosing_38 : decode cX6_whyNoClosing 38 = .ok (.ireturn, 1) := by decide +kernel
theorem dX6_closes_0 : decode cX6_closes 0 = .ok (.iconst 1, 1) := by decide +kernel
theorem dX6_closes_1 : decode cX6_closes 1 = .ok (.istore_n 2, 1) := by decide +kernel
theorem dX6_closes_2 : decode cX6_closes 2 = .ok (.iload_n 2, 1) := by decide +kernel
theorem dX6_closes_3 : decode cX6_closes 3 = .ok (.iconst 4, 1) := by decide +kernel
theorem dX6_closes_4 : decode cX6_closes 4 = .ok (.if_icmp .ge 48, 3) := by decide +kernel
theorem dX6_closes_7 : decode cX6_closes 7 = .ok (.aload_n 0, 1) := by decide +kernel
theorem dX6_closes_8 : decode cX6_closes 8 = .ok (.iload_n 1, 1) := by decide +kernel
theorem dX6_closes_9 : decode cX6_closes 9 = .ok (.iload_n 2, 1) := by decide +kernel
theorem dX6_closes_10 : decode cX6_closes 10 = .ok (.iconst 0, 1) := by decide +kernel
theorem dX6_closes_11 : decode cX6_closes 11 = .ok (.invokevirtual 55, 3) := by decide +kernel
theorem dX6_closes_14 : decode cX6_closes 14 = .ok (.istore_n 3, 1) := by decide +kernel
theorem dX6_closes_15 : decode cX6_closes 15 = .ok (.iload_n 3, 1) := by decide +kernel
theorem dX6_closes_16 : decode cX6_closes 16 = .ok (.ifCond .le 14, 3) := by decide +kernel
theorem dX6_closes_19 : decode cX6_closes 19 = .ok (.aload_n 0, 1) := by decide +kernel
theorem dX6_closes_20 : decode cX6_closes 20 = .ok (.iload_n 1, 1) := by decide +kernel
theorem dX6_closes_21 : decode cX6_closes 21 = .ok (.iload_n 2, 1) := by decide +kernel
theorem dX6_closes_22 : decode cX6_closes 22 = .ok (.iconst 0, 1) := by decide +kernel
theorem dX6_closes_23 : decode cX6_closes 23 = .ok (.iload_n 3, 1) := by decide +kernel
theorem dX6_closes_24 : decode cX6_closes 24 = .ok (.invokevirtual 108, 3) := by decide +kernel
theorem dX6_closes_27 : decode cX6_closes 27 = .ok (.goto 4, 3) := by decide +kernel
theorem dX6_closes_30 : decode cX6_closes 30 = .ok (.iconst 0, 1) := by decide +kernel
theorem dX6_closes_31 : decode cX6_closes 31 = .ok (.istore 4, 2) := by decide +kernel
theorem dX6_closes_33 : decode cX6_closes 33 = .ok (.aload_n 0, 1) := by decide +kernel
theorem dX6_closes_34 : decode cX6_closes 34 = .ok (.getfield 7, 3) := by decide +kernel
theorem dX6_closes_37 : decode cX6_closes 37 = .ok (.iload_n 1, 1) := by decide +kernel
theorem dX6_closes_38 : decode cX6_closes 38 = .ok (.iload_n 2, 1) := by decide +kernel
theorem dX6_closes_39 : decode cX6_closes 39 = .ok (.invokestatic 45, 3) := by decide +kernel
theorem dX6_closes_42 : decode cX6_closes 42 = .ok (.iconst 2, 1) := by decide +kernel
theorem dX6_closes_43 : decode cX6_closes 43 = .ok (.iadd, 1) := by decide +kernel
theorem dX6_closes_44 : decode cX6_closes 44 = .ok (.iconst 0, 1) := by decide +kernel
theorem dX6_closes_45 : decode cX6_closes 45 = .ok (.iastore, 1) := by decide +kernel
theorem dX6_closes_46 : decode cX6_closes 46 = .ok (.iinc 2 1, 3) := by decide +kernel
theorem dX6_closes_49 : decode cX6_closes 49 = .ok (.goto (-47), 3) := by decide +kernel
theorem dX6_closes_52 : decode cX6_closes 52 = .ok (.aload_n 0, 1) := by decide +kernel
theorem dX6_closes_53 : decode cX6_closes 53 = .ok (.iload_n 1, 1) := by decide +kernel
theorem dX6_closes_54 : decode cX6_closes 54 = .ok (.iconst 0, 1) := by decide +kernel
theorem dX6_closes_55 : decode cX6_closes 55 = .ok (.iconst 0, 1) := by decide +kernel
theorem dX6_closes_56 : decode cX6_closes 56 = .ok (.invokevirtual 55, 3) := by decide +kernel
theorem dX6_closes_59 : decode cX6_closes 59 = .ok (.istore_n 2, 1) := by decide +kernel
theorem dX6_closes_60 : decode cX6_closes 60 = .ok (.aload_n 0, 1) := by decide +kernel
theorem dX6_closes_61 : decode cX6_closes 61 = .ok (.getfield 7, 3) := by decide +kernel
theorem dX6_closes_64 : decode cX6_closes 64 = .ok (.iload_n 1, 1) := by decide +kernel
theorem dX6_closes_65 : decode cX6_closes 65 = .ok (.iconst 0, 1) := by decide +kernel
theorem dX6_closes_66 : decode cX6_closes 66 = .ok (.invokestatic 45, 3) := by decide +kernel
theorem dX6_closes_69 : decode cX6_closes 69 = .ok (.iconst 0, 1) := by decide +kernel
theorem dX6_closes_70 : decode cX6_closes 70 = .ok (.iadd, 1) := by decide +kernel
theorem dX6_closes_71 : decode cX6_closes 71 = .ok (.iconst 0, 1) := by decide +kernel
theorem dX6_closes_72 : decode cX6_closes 72 = .ok (.iastore, 1) := by decide +kernel
theorem dX6_closes_73 : decode cX6_closes 73 = .ok (.aload_n 0, 1) := by decide +kernel
theorem dX6_closes_74 : decode cX6_closes 74 = .ok (.getfield 7, 3) := by decide +kernel
theorem dX6_closes_77 : decode cX6_closes 77 = .ok (.bipush 11, 2) := by decide +kernel
theorem dX6_closes_79 : decode cX6_closes 79 = .ok (.dup2, 1) := by decide +kernel
theorem dX6_closes_80 : decode cX6_closes 80 = .ok (.iaload, 1) := by decide +kernel
theorem dX6_closes_81 : decode cX6_closes 81 = .ok (.iload_n 2, 1) := by decide +kernel
theorem dX6_closes_82 : decode cX6_closes 82 = .ok (.iadd, 1) := by decide +kernel
theorem dX6_closes_83 : decode cX6_closes 83 = .ok (.iastore, 1) := by decide +kernel
theorem dX6_closes_84 : decode cX6_closes 84 = .ok (.iload_n 2, 1) := by decide +kernel
theorem dX6_closes_85 : decode cX6_closes 85 = .ok (.ireturn, 1) := by decide +kernel
theorem dX6_close_0 : decode cX6_close 0 = .ok (.aload_n 0, 1) := by decide +kernel
theorem dX6_close_1 : decode cX6_close 1 = .ok (.iload_n 1, 1) := by decide +kernel
theorem dX6_close_2 : decode cX6_close 2 = .ok (.invokestatic 33, 3) := by decide +kernel
theorem dX6_close_5 : decode cX6_close 5 = .ok (.ifCond .ne 7, 3) := by decide +kernel
theorem dX6_close_8 : decode cX6_close 8 = .ok (.iconst 1, 1) := by decide +kernel
theorem dX6_close_9 : decode cX6_close 9 = .ok (.goto 16, 3) := by decide +kernel
theorem dX6_close_12 : decode cX6_close 12 = .ok (.aload_n 0, 1) := by decide +kernel
theorem dX6_close_13 : decode cX6_close 13 = .ok (.iload_n 1, 1) := by decide +kernel
theorem dX6_close_14 : decode cX6_close 14 = .ok (.invokevirtual 148, 3) := by decide +kernel
theorem dX6_close_17 : decode cX6_close 17 = .ok (.ifCond .ne 7, 3) := by decide +kernel
theorem dX6_close_20 : decode cX6_close 20 = .ok (.iconst 0, 1) := by decide +kernel
theorem dX6_close_21 : decode cX6_close 21 = .ok (.goto 4, 3) := by decide +kernel
theorem dX6_close_24 : decode cX6_close 24 = .ok (.iconst 2, 1) := by decide +kernel
theorem dX6_close_25 : decode cX6_close 25 = .ok (.putfield 22, 3) := by decide +kernel
theorem dX6_close_28 : decode cX6_close 28 = .ok (.aload_n 0, 1) := by decide +kernel
theorem dX6_close_29 : decode cX6_close 29 = .ok (.getfield 22, 3) := by decide +kernel
theorem dX6_close_32 : decode cX6_close 32 = .ok (.ifCond .le 5, 3) := by decide +kernel
theorem dX6_close_35 : decode cX6_close 35 = .ok (.iconst 0, 1) := by decide +kernel
theorem dX6_close_36 : decode cX6_close 36 = .ok (.ireturn, 1) := by decide +kernel
theorem dX6_close_37 : decode cX6_close 37 = .ok (.aload_n 0, 1) := by decide +kernel
theorem dX6_close_38 : decode cX6_close 38 = .ok (.invokevirtual 68, 3) := by decide +kernel
theorem dX6_close_41 : decode cX6_close 41 = .ok (.aload_n 0, 1) := by decide +kernel
theorem dX6_close_42 : decode cX6_close 42 = .ok (.iload_n 1, 1) := by decide +kernel
theorem dX6_close_43 : decode cX6_close 43 = .ok (.invokevirtual 151, 3) := by decide +kernel
theorem dX6_close_46 : decode cX6_close 46 = .ok (.ireturn, 1) := by decide +kernel
theorem dX6_dayPasses_0 : decode cX6_dayPasses 0 = .ok (.aload_n 0, 1) := by decide +kernel
theorem dX6_dayPasses_1 : decode cX6_dayPasses 1 = .ok (.getfield 7, 3) := by decide +kernel
theorem dX6_dayPasses_4 : decode cX6_dayPasses 4 = .ok (.iconst 4, 1) := by decide +kernel
theorem dX6_dayPasses_5 : decode cX6_dayPasses 5 = .ok (.dup2, 1) := by decide +kernel
theorem dX6_dayPasses_6 : decode cX6_dayPasses 6 = .ok (.iaload, 1) := by decide +kernel
theorem dX6_dayPasses_7 : decode cX6_dayPasses 7 = .ok (.iconst 1, 1) := by decide +kernel
theorem dX6_dayPasses_8 : decode cX6_dayPasses 8 = .ok (.iadd, 1) := by decide +kernel
theorem dX6_dayPasses_9 : decode cX6_dayPasses 9 = .ok (.iastore, 1) := by decide +kernel
theorem dX6_dayPasses_10 : decode cX6_dayPasses 10 = .ok (.iconst 0, 1) := by decide +kernel
theorem dX6_dayPasses_11 : decode cX6_dayPasses 11 = .ok (.istore_n 1, 1) := by decide +kernel
theorem dX6_dayPasses_12 : decode cX6_dayPasses 12 = .ok (.aload_n 0, 1) := by decide +kernel
theorem dX6_dayPasses_13 : decode cX6_dayPasses 13 = .ok (.getfield 7, 3) := by decide +kernel
theorem dX6_dayPasses_16 : decode cX6_dayPasses 16 = .ok (.bipush 8, 2) := by decide +kernel
theorem dX6_dayPasses_18 : decode cX6_dayPasses 18 = .ok (.iaload, 1) := by decide +kernel
theorem dX6_dayPasses_19 : decode cX6_dayPasses 19 = .ok (.iconst 1, 1) := by decide +kernel
theorem dX6_dayPasses_20 : decode cX6_dayPasses 20 = .ok (.isub, 1) := by decide +kernel
theorem dX6_dayPasses_21 : decode cX6_dayPasses 21 = .ok (.istore_n 2, 1) := by decide +kernel
theorem dX6_dayPasses_22 : decode cX6_dayPasses 22 = .ok (.iload_n 2, 1) := by decide +kernel
theorem dX6_dayPasses_23 : decode cX6_dayPasses 23 = .ok (.ifCond .lt 39, 3) := by decide +kernel
theorem dX6_dayPasses_26 : decode cX6_dayPasses 26 = .ok (.aload_n 0, 1) := by decide +kernel
theorem dX6_dayPasses_27 : decode cX6_dayPasses 27 = .ok (.getfield 7, 3) := by decide +kernel
theorem dX6_dayPasses_30 : decode cX6_dayPasses 30 = .ok (.iconst 4, 1) := by decide +kernel
theorem dX6_dayPasses_31 : decode cX6_dayPasses 31 = .ok (.iaload, 1) := by decide +kernel
theorem dX6_dayPasses_32 : decode cX6_dayPasses 32 = .ok (.aload_n 0, 1) := by decide +kernel
theorem dX6_dayPasses_33 : decode cX6_dayPasses 33 = .ok (.iload_n 2, 1) := by decide +kernel
theorem dX6_dayPasses_34 : decode cX6_dayPasses 34 = .ok (.iconst 4, 1) := by decide +kernel
theorem dX6_dayPasses_35 : decode cX6_dayPasses 35 = .ok (.invokevirtual 52, 3) := by decide +kernel
theorem dX6_dayPasses_38 : decode cX6_dayPasses 38 = .ok (.isub, 1) := by decide +kernel
theorem dX6_dayPasses_39 : decode cX6_dayPasses 39 = .ok (.aload_n 0, 1) := by decide +kernel
theorem dX6_dayPasses_40 : decode cX6_dayPasses 40 = .ok (.getfield 7, 3) := by decide +kernel
theorem dX6_dayPasses_43 : decode cX6_dayPasses 43 = .ok (.iconst 3, 1) := by decide +kernel
theorem dX6_dayPasses_44 : decode cX6_dayPasses 44 = .ok (.iaload, 1) := by decide +kernel
theorem dX6_dayPasses_45 : decode cX6_dayPasses 45 = .ok (.if_icmp .le 11, 3) := by decide +kernel
theorem dX6_dayPasses_48 : decode cX6_dayPasses 48 = .ok (.aload_n 0, 1) := by decide +kernel
theorem dX6_dayPasses_49 : decode cX6_dayPasses 49 = .ok (.iload_n 2, 1) := by decide +kernel
theorem dX6_dayPasses_50 : decode cX6_dayPasses 50 = .ok (.invokevirtual 123, 3) := by decide +kernel
theorem dX6_dayPasses_53 : decode cX6_dayPasses 53 = .ok (.iinc 1 1, 3) := by decide +kernel
theorem dX6_dayPasses_56 : decode cX6_dayPasses 56 = .ok (.iinc 2 (-1), 3) := by decide +kernel
theorem dX6_dayPasses_59 : decode cX6_dayPasses 59 = .ok (.goto (-37), 3) := by decide +kernel
theorem dX6_dayPasses_62 : decode cX6_dayPasses 62 = .ok (.iload_n 1, 1) := by decide +kernel
theorem dX6_dayPasses_63 : decode cX6_dayPasses 63 = .ok (.ireturn, 1) := by decide +kernel
theorem dX6_pass_0 : decode cX6_pass 0 = .ok (.aload_n 0, 1) := by decide +kernel
theorem dX6_pass_1 : decode cX6_pass 1 = .ok (.iload_n 1, 1) := by decide +kernel
theorem dX6_pass_2 : decode cX6_pass 2 = .ok (.iconst 1, 1) := by decide +kernel
theorem dX6_pass_3 : decode cX6_pass 3 = .ok (.bipush 60, 2) := by decide +kernel
theorem dX6_pass_5 : decode cX6_pass 5 = .ok (.invokestatic 29, 3) := by decide +kernel
theorem dX6_pass_8 : decode cX6_pass 8 = .ok (.ifCond .ne 7, 3) := by decide +kernel
theorem dX6_pass_11 : decode cX6_pass 11 = .ok (.iconst 1, 1) := by decide +kernel
theorem dX6_pass_12 : decode cX6_pass 12 = .ok (.goto 22, 3) := by decide +kernel
theorem dX6_pass_15 : decode cX6_pass 15 = .ok (.aload_n 0, 1) := by decide +kernel
theorem dX6_pass_16 : decode cX6_pass 16 = .ok (.getfield 7, 3) := by decide +kernel
theorem dX6_pass_19 : decode cX6_pass 19 = .ok (.iconst 4, 1) := by decide +kernel
theorem dX6_pass_20 : decode cX6_pass 20 = .ok (.iaload, 1) := by decide +kernel
theorem dX6_pass_21 : decode cX6_pass 21 = .ok (.iload_n 1, 1) := by decide +kernel
theorem dX6_pass_22 : decode cX6_pass 22 = .ok (.iadd, 1) := by decide +kernel
theorem dX6_pass_23 : decode cX6_pass 23 = .ok (.sipush 5000, 3) := by decide +kernel
theorem dX6_pass_26 : decode cX6_pass 26 = .ok (.if_icmp .le 7, 3) := by decide +kernel
theorem dX6_pass_29 : decode cX6_pass 29 = .ok (.iconst 2, 1) := by decide +kernel
