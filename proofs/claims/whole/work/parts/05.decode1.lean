theorem dX0_init_0 : decode cX0_init 0 = .ok (.aload_n 0, 1) := by decide +kernel
theorem dX0_init_1 : decode cX0_init 1 = .ok (.invokespecial 3, 3) := by decide +kernel
theorem dX0_init_4 : decode cX0_init 4 = .ok (.aload_n 0, 1) := by decide +kernel
theorem dX0_init_5 : decode cX0_init 5 = .ok (.getstatic 9, 3) := by decide +kernel
theorem dX0_init_8 : decode cX0_init 8 = .ok (.invokevirtual 13, 3) := by decide +kernel
theorem dX0_init_11 : decode cX0_init 11 = .ok (.checkcast 14, 3) := by decide +kernel
theorem dX0_init_14 : decode cX0_init 14 = .ok (.putfield 18, 3) := by decide +kernel
theorem dX0_init_17 : decode cX0_init 17 = .ok (.aload_n 0, 1) := by decide +kernel
theorem dX0_init_18 : decode cX0_init 18 = .ok (.getstatic 23, 3) := by decide +kernel
theorem dX0_init_21 : decode cX0_init 21 = .ok (.invokevirtual 13, 3) := by decide +kernel
theorem dX0_init_24 : decode cX0_init 24 = .ok (.checkcast 14, 3) := by decide +kernel
theorem dX0_init_27 : decode cX0_init 27 = .ok (.putfield 26, 3) := by decide +kernel
theorem dX0_init_30 : decode cX0_init 30 = .ok (.aload_n 0, 1) := by decide +kernel
theorem dX0_init_31 : decode cX0_init 31 = .ok (.bipush 16, 2) := by decide +kernel
theorem dX0_init_33 : decode cX0_init 33 = .ok (.anewarray 29, 3) := by decide +kernel
theorem dX0_init_36 : decode cX0_init 36 = .ok (.putfield 31, 3) := by decide +kernel
theorem dX0_init_39 : decode cX0_init 39 = .ok (.aload_n 0, 1) := by decide +kernel
theorem dX0_init_40 : decode cX0_init 40 = .ok (.bipush 8, 2) := by decide +kernel
theorem dX0_init_42 : decode cX0_init 42 = .ok (.anewarray 35, 3) := by decide +kernel
theorem dX0_init_45 : decode cX0_init 45 = .ok (.putfield 37, 3) := by decide +kernel
theorem dX0_init_48 : decode cX0_init 48 = .ok (.aload_n 0, 1) := by decide +kernel
theorem dX0_init_49 : decode cX0_init 49 = .ok (.bipush 12, 2) := by decide +kernel
theorem dX0_init_51 : decode cX0_init 51 = .ok (.anewarray 41, 3) := by decide +kernel
theorem dX0_init_54 : decode cX0_init 54 = .ok (.putfield 43, 3) := by decide +kernel
theorem dX0_init_57 : decode cX0_init 57 = .ok (.iconst 0, 1) := by decide +kernel
theorem dX0_init_58 : decode cX0_init 58 = .ok (.istore_n 1, 1) := by decide +kernel
theorem dX0_init_59 : decode cX0_init 59 = .ok (.iload_n 1, 1) := by decide +kernel
theorem dX0_init_60 : decode cX0_init 60 = .ok (.aload_n 0, 1) := by decide +kernel
theorem dX0_init_61 : decode cX0_init 61 = .ok (.getfield 31, 3) := by decide +kernel
theorem dX0_init_64 : decode cX0_init 64 = .ok (.arraylength, 1) := by decide +kernel
theorem dX0_init_65 : decode cX0_init 65 = .ok (.if_icmp .ge 28, 3) := by decide +kernel
theorem dX0_init_68 : decode cX0_init 68 = .ok (.aload_n 0, 1) := by decide +kernel
theorem dX0_init_69 : decode cX0_init 69 = .ok (.getfield 31, 3) := by decide +kernel
theorem dX0_init_72 : decode cX0_init 72 = .ok (.iload_n 1, 1) := by decide +kernel
theorem dX0_init_73 : decode cX0_init 73 = .ok (.new 29, 3) := by decide +kernel
theorem dX0_init_76 : decode cX0_init 76 = .ok (.dup, 1) := by decide +kernel
theorem dX0_init_77 : decode cX0_init 77 = .ok (.iload_n 1, 1) := by decide +kernel
theorem dX0_init_78 : decode cX0_init 78 = .ok (.iconst 4, 1) := by decide +kernel
theorem dX0_init_79 : decode cX0_init 79 = .ok (.idiv, 1) := by decide +kernel
theorem dX0_init_80 : decode cX0_init 80 = .ok (.iload_n 1, 1) := by decide +kernel
theorem dX0_init_81 : decode cX0_init 81 = .ok (.iconst 4, 1) := by decide +kernel
theorem dX0_init_82 : decode cX0_init 82 = .ok (.irem, 1) := by decide +kernel
theorem dX0_init_83 : decode cX0_init 83 = .ok (.invokespecial 47, 3) := by decide +kernel
theorem dX0_init_86 : decode cX0_init 86 = .ok (.aastore, 1) := by decide +kernel
theorem dX0_init_87 : decode cX0_init 87 = .ok (.iinc 1 1, 3) := by decide +kernel
theorem dX0_init_90 : decode cX0_init 90 = .ok (.goto (-31), 3) := by decide +kernel
theorem dX0_init_93 : decode cX0_init 93 = .ok (.iconst 0, 1) := by decide +kernel
theorem dX0_init_94 : decode cX0_init 94 = .ok (.istore_n 1, 1) := by decide +kernel
theorem dX0_init_95 : decode cX0_init 95 = .ok (.iload_n 1, 1) := by decide +kernel
theorem dX0_init_96 : decode cX0_init 96 = .ok (.aload_n 0, 1) := by decide +kernel
theorem dX0_init_97 : decode cX0_init 97 = .ok (.getfield 37, 3) := by decide +kernel
theorem dX0_init_100 : decode cX0_init 100 = .ok (.arraylength, 1) := by decide +kernel
theorem dX0_init_101 : decode cX0_init 101 = .ok (.if_icmp .ge 22, 3) := by decide +kernel
theorem dX0_init_104 : decode cX0_init 104 = .ok (.aload_n 0, 1) := by decide +kernel
theorem dX0_init_105 : decode cX0_init 105 = .ok (.getfield 37, 3) := by decide +kernel
theorem dX0_init_108 : decode cX0_init 108 = .ok (.iload_n 1, 1) := by decide +kernel
theorem dX0_init_109 : decode cX0_init 109 = .ok (.new 35, 3) := by decide +kernel
theorem dX0_init_112 : decode cX0_init 112 = .ok (.dup, 1) := by decide +kernel
theorem dX0_init_113 : decode cX0_init 113 = .ok (.invokespecial 50, 3) := by decide +kernel
theorem dX0_init_116 : decode cX0_init 116 = .ok (.aastore, 1) := by decide +kernel
theorem dX0_init_117 : decode cX0_init 117 = .ok (.iinc 1 1, 3) := by decide +kernel
theorem dX0_init_120 : decode cX0_init 120 = .ok (.goto (-25), 3) := by decide +kernel
theorem dX0_init_123 : decode cX0_init 123 = .ok (.iconst 0, 1) := by decide +kernel
theorem dX0_init_124 : decode cX0_init 124 = .ok (.istore_n 1, 1) := by decide +kernel
theorem dX0_init_125 : decode cX0_init 125 = .ok (.iload_n 1, 1) := by decide +kernel
theorem dX0_init_126 : decode cX0_init 126 = .ok (.aload_n 0, 1) := by decide +kernel
theorem dX0_init_127 : decode cX0_init 127 = .ok (.getfield 43, 3) := by decide +kernel
theorem dX0_init_130 : decode cX0_init 130 = .ok (.arraylength, 1) := by decide +kernel
theorem dX0_init_131 : decode cX0_init 131 = .ok (.if_icmp .ge 22, 3) := by decide +kernel
theorem dX0_init_134 : decode cX0_init 134 = .ok (.aload_n 0, 1) := by decide +kernel
theorem dX0_init_135 : decode cX0_init 135 = .ok (.getfield 43, 3) := by decide +kernel
theorem dX0_init_138 : decode cX0_init 138 = .ok (.iload_n 1, 1) := by decide +kernel
theorem dX0_init_139 : decode cX0_init 139 = .ok (.new 41, 3) := by decide +kernel
theorem dX0_init_142 : decode cX0_init 142 = .ok (.dup, 1) := by decide +kernel
theorem dX0_init_143 : decode cX0_init 143 = .ok (.invokespecial 51, 3) := by decide +kernel
theorem dX0_init_146 : decode cX0_init 146 = .ok (.aastore, 1) := by decide +kernel
theorem dX0_init_147 : decode cX0_init 147 = .ok (.iinc 1 1, 3) := by decide +kernel
theorem dX0_init_150 : decode cX0_init 150 = .ok (.goto (-25), 3) := by decide +kernel
theorem dX0_init_153 : decode cX0_init 153 = .ok (.return_, 1) := by decide +kernel
theorem dX0_copyFrom_0 : decode cX0_copyFrom 0 = .ok (.aload_n 0, 1) := by decide +kernel
theorem dX0_copyFrom_1 : decode cX0_copyFrom 1 = .ok (.aload_n 1, 1) := by decide +kernel
theorem dX0_copyFrom_2 : decode cX0_copyFrom 2 = .ok (.getfield 52, 3) := by decide +kernel
theorem dX0_copyFrom_5 : decode cX0_copyFrom 5 = .ok (.putfield 52, 3) := by decide +kernel
theorem dX0_copyFrom_8 : decode cX0_copyFrom 8 = .ok (.aload_n 1, 1) := by decide +kernel
theorem dX0_copyFrom_9 : decode cX0_copyFrom 9 = .ok (.getfield 18, 3) := by decide +kernel
theorem dX0_copyFrom_12 : decode cX0_copyFrom 12 = .ok (.iconst 0, 1) := by decide +kernel
theorem dX0_copyFrom_13 : decode cX0_copyFrom 13 = .ok (.aload_n 0, 1) := by decide +kernel
theorem dX0_copyFrom_14 : decode cX0_copyFrom 14 = .ok (.getfield 18, 3) := by decide +kernel
theorem dX0_copyFrom_17 : decode cX0_copyFrom 17 = .ok (.iconst 0, 1) := by decide +kernel
theorem dX0_copyFrom_18 : decode cX0_copyFrom 18 = .ok (.aload_n 0, 1) := by decide +kernel
theorem dX0_copyFrom_19 : decode cX0_copyFrom 19 = .ok (.getfield 18, 3) := by decide +kernel
theorem dX0_copyFrom_22 : decode cX0_copyFrom 22 = .ok (.arraylength, 1) := by decide +kernel
theorem dX0_copyFrom_23 : decode cX0_copyFrom 23 = .ok (.invokestatic 56, 3) := by decide +kernel
theorem dX0_copyFrom_26 : decode cX0_copyFrom 26 = .ok (.aload_n 1, 1) := by decide +kernel
theorem dX0_copyFrom_27 : decode cX0_copyFrom 27 = .ok (.getfield 26, 3) := by decide +kernel
theorem dX0_copyFrom_30 : decode cX0_copyFrom 30 = .ok (.iconst 0, 1) := by decide +kernel
theorem dX0_copyFrom_31 : decode cX0_copyFrom 31 = .ok (.aload_n 0, 1) := by decide +kernel
theorem dX0_copyFrom_32 : decode cX0_copyFrom 32 = .ok (.getfield 26, 3) := by decide +kernel
theorem dX0_copyFrom_35 : decode cX0_copyFrom 35 = .ok (.iconst 0, 1) := by decide +kernel
theorem dX0_copyFrom_36 : decode cX0_copyFrom 36 = .ok (.aload_n 0, 1) := by decide +kernel
theorem dX0_copyFrom_37 : decode cX0_copyFrom 37 = .ok (.getfield 26, 3) := by decide +kernel
theorem dX0_copyFrom_40 : decode cX0_copyFrom 40 = .ok (.arraylength, 1) := by decide +kernel
theorem dX0_copyFrom_41 : decode cX0_copyFrom 41 = .ok (.invokestatic 56, 3) := by decide +kernel
theorem dX0_copyFrom_44 : decode cX0_copyFrom 44 = .ok (.iconst 0, 1) := by decide +kernel
theorem dX0_copyFrom_45 : decode cX0_copyFrom 45 = .ok (.istore_n 2, 1) := by decide +kernel
theorem dX0_copyFrom_46 : decode cX0_copyFrom 46 = .ok (.iload_n 2, 1) := by decide +kernel
theorem dX0_copyFrom_47 : decode cX0_copyFrom 47 = .ok (.aload_n 0, 1) := by decide +kernel
theorem dX0_copyFrom_48 : decode cX0_copyFrom 48 = .ok (.getfield 31, 3) := by decide +kernel
theorem dX0_copyFrom_51 : decode cX0_copyFrom 51 = .ok (.arraylength, 1) := by decide +kernel
theorem dX0_copyFrom_52 : decode cX0_copyFrom 52 = .ok (.if_icmp .ge 24, 3) := by decide +kernel
theorem dX0_copyFrom_55 : decode cX0_copyFrom 55 = .ok (.aload_n 0, 1) := by decide +kernel
theorem dX0_copyFrom_56 : decode cX0_copyFrom 56 = .ok (.getfield 31, 3) := by decide +kernel
theorem dX0_copyFrom_59 : decode cX0_copyFrom 59 = .ok (.iload_n 2, 1) := by decide +kernel
theorem dX0_copyFrom_60 : decode cX0_copyFrom 60 = .ok (.aaload, 1) := by decide +kernel
theorem dX0_copyFrom_61 : decode cX0_copyFrom 61 = .ok (.aload_n 1, 1) := by decide +kernel
theorem dX0_copyFrom_62 : decode cX0_copyFrom 62 = .ok (.getfield 31, 3) := by decide +kernel
theorem dX0_copyFrom_65 : decode cX0_copyFrom 65 = .ok (.iload_n 2, 1) := by decide +kernel
theorem dX0_copyFrom_66 : decode cX0_copyFrom 66 = .ok (.aaload, 1) := by decide +kernel
theorem dX0_copyFrom_67 : decode cX0_copyFrom 67 = .ok (.invokevirtual 62, 3) := by decide +kernel
theorem dX0_copyFrom_70 : decode cX0_copyFrom 70 = .ok (.iinc 2 1, 3) := by decide +kernel
theorem dX0_copyFrom_73 : decode cX0_copyFrom 73 = .ok (.goto (-27), 3) := by decide +kernel
theorem dX0_copyFrom_76 : decode cX0_copyFrom 76 = .ok (.aload_n 0, 1) := by decide +kernel
theorem dX0_copyFrom_77 : decode cX0_copyFrom 77 = .ok (.aload_n 1, 1) := by decide +kernel
theorem dX0_copyFrom_78 : decode cX0_copyFrom 78 = .ok (.getfield 66, 3) := by decide +kernel
theorem dX0_copyFrom_81 : decode cX0_copyFrom 81 = .ok (.putfield 66, 3) := by decide +kernel
theorem dX0_copyFrom_84 : decode cX0_copyFrom 84 = .ok (.iconst 0, 1) := by decide +kernel
theorem dX0_copyFrom_85 : decode cX0_copyFrom 85 = .ok (.istore_n 2, 1) := by decide +kernel
theorem dX0_copyFrom_86 : decode cX0_copyFrom 86 = .ok (.iload_n 2, 1) := by decide +kernel
theorem dX0_copyFrom_87 : decode cX0_copyFrom 87 = .ok (.aload_n 0, 1) := by decide +kernel
theorem dX0_copyFrom_88 : decode cX0_copyFrom 88 = .ok (.getfield 66, 3) := by decide +kernel
theorem dX0_copyFrom_91 : decode cX0_copyFrom 91 = .ok (.if_icmp .ge 24, 3) := by decide +kernel
theorem dX0_copyFrom_94 : decode cX0_copyFrom 94 = .ok (.aload_n 0, 1) := by decide +kernel
theorem dX0_copyFrom_95 : decode cX0_copyFrom 95 = .ok (.getfield 37, 3) := by decide +kernel
theorem dX0_copyFrom_98 : decode cX0_copyFrom 98 = .ok (.iload_n 2, 1) := by decide +kernel
theorem dX0_copyFrom_99 : decode cX0_copyFrom 99 = .ok (.aaload, 1) := by decide +kernel
theorem dX0_copyFrom_100 : decode cX0_copyFrom 100 = .ok (.aload_n 1, 1) := by decide +kernel
theorem dX0_copyFrom_101 : decode cX0_copyFrom 101 = .ok (.getfield 37, 3) := by decide +kernel
theorem dX0_copyFrom_104 : decode cX0_copyFrom 104 = .ok (.iload_n 2, 1) := by decide +kernel
theorem dX0_copyFrom_105 : decode cX0_copyFrom 105 = .ok (.aaload, 1) := by decide +kernel
theorem dX0_copyFrom_106 : decode cX0_copyFrom 106 = .ok (.invokevirtual 69, 3) := by decide +kernel
theorem dX0_copyFrom_109 : decode cX0_copyFrom 109 = .ok (.iinc 2 1, 3) := by decide +kernel
theorem dX0_copyFrom_112 : decode cX0_copyFrom 112 = .ok (.goto (-26), 3) := by decide +kernel
theorem dX0_copyFrom_115 : decode cX0_copyFrom 115 = .ok (.aload_n 0, 1) := by decide +kernel
theorem dX0_copyFrom_116 : decode cX0_copyFrom 116 = .ok (.aload_n 1, 1) := by decide +kernel
theorem dX0_copyFrom_117 : decode cX0_copyFrom 117 = .ok (.getfield 72, 3) := by decide +kernel
theorem dX0_copyFrom_120 : decode cX0_copyFrom 120 = .ok (.putfield 72, 3) := by decide +kernel
theorem dX0_copyFrom_123 : decode cX0_copyFrom 123 = .ok (.iconst 0, 1) := by decide +kernel
theorem dX0_copyFrom_124 : decode cX0_copyFrom 124 = .ok (.istore_n 2, 1) := by decide +kernel
theorem dX0_copyFrom_125 : decode cX0_copyFrom 125 = .ok (.iload_n 2, 1) := by decide +kernel
theorem dX0_copyFrom_126 : decode cX0_copyFrom 126 = .ok (.aload_n 0, 1) := by decide +kernel
theorem dX0_copyFrom_127 : decode cX0_copyFrom 127 = .ok (.getfield 72, 3) := by decide +kernel
theorem dX0_copyFrom_130 : decode cX0_copyFrom 130 = .ok (.if_icmp .ge 24, 3) := by decide +kernel
theorem dX0_copyFrom_133 : decode cX0_copyFrom 133 = .ok (.aload_n 0, 1) := by decide +kernel
theorem dX0_copyFrom_134 : decode cX0_copyFrom 134 = .ok (.getfield 43, 3) := by decide +kernel
theorem dX0_copyFrom_137 : decode cX0_copyFrom 137 = .ok (.iload_n 2, 1) := by decide +kernel
theorem dX0_copyFrom_138 : decode cX0_copyFrom 138 = .ok (.aaload, 1) := by decide +kernel
theorem dX0_copyFrom_139 : decode cX0_copyFrom 139 = .ok (.aload_n 1, 1) := by decide +kernel
theorem dX0_copyFrom_140 : decode cX0_copyFrom 140 = .ok (.getfield 43, 3) := by decide +kernel
theorem dX0_copyFrom_143 : decode cX0_copyFrom 143 = .ok (.iload_n 2, 1) := by decide +kernel
theorem dX0_copyFrom_144 : decode cX0_copyFrom 144 = .ok (.aaload, 1) := by decide +kernel
theorem dX0_copyFrom_145 : decode cX0_copyFrom 145 = .ok (.invokevirtual 75, 3) := by decide +kernel
theorem dX0_copyFrom_148 : decode cX0_copyFrom 148 = .ok (.iinc 2 1, 3) := by decide +kernel
theorem dX0_copyFrom_151 : decode cX0_copyFrom 151 = .ok (.goto (-26), 3) := by decide +kernel
theorem dX0_copyFrom_154 : decode cX0_copyFrom 154 = .ok (.aload_n 0, 1) := by decide +kernel
theorem dX0_copyFrom_155 : decode cX0_copyFrom 155 = .ok (.aload_n 1, 1) := by decide +kernel
theorem dX0_copyFrom_156 : decode cX0_copyFrom 156 = .ok (.getfield 78, 3) := by decide +kernel
theorem dX0_copyFrom_159 : decode cX0_copyFrom 159 = .ok (.putfield 78, 3) := by decide +kernel
theorem dX0_copyFrom_162 : decode cX0_copyFrom 162 = .ok (.aload_n 0, 1) := by decide +kernel
theorem dX0_copyFrom_163 : decode cX0_copyFrom 163 = .ok (.aload_n 1, 1) := by decide +kernel
theorem dX0_copyFrom_164 : decode cX0_copyFrom 164 = .ok (.getfield 81, 3) := by decide +kernel
theorem dX0_copyFrom_167 : decode cX0_copyFrom 167 = .ok (.putfield 81, 3) := by decide +kernel
theorem dX0_copyFrom_170 : decode cX0_copyFrom 170 = .ok (.aload_n 0, 1) := by decide +kernel
theorem dX0_copyFrom_171 : decode cX0_copyFrom 171 = .ok (.aload_n 1, 1) := by decide +kernel
theorem dX0_copyFrom_172 : decode cX0_copyFrom 172 = .ok (.getfield 84, 3) := by decide +kernel
theorem dX0_copyFrom_175 : decode cX0_copyFrom 175 = .ok (.putfield 84, 3) := by decide +kernel
theorem dX0_copyFrom_178 : decode cX0_copyFrom 178 = .ok (.aload_n 0, 1) := by decide +kernel
theorem dX0_copyFrom_179 : decode cX0_copyFrom 179 = .ok (.aload_n 1, 1) := by decide +kernel
theorem dX0_copyFrom_180 : decode cX0_copyFrom 180 = .ok (.getfield 87, 3) := by decide +kernel
theorem dX0_copyFrom_183 : decode cX0_copyFrom 183 = .ok (.putfield 87, 3) := by decide +kernel
theorem dX0_copyFrom_186 : decode cX0_copyFrom 186 = .ok (.aload_n 0, 1) := by decide +kernel
theorem dX0_copyFrom_187 : decode cX0_copyFrom 187 = .ok (.aload_n 1, 1) := by decide +kernel
theorem dX0_copyFrom_188 : decode cX0_copyFrom 188 = .ok (.getfield 90, 3) := by decide +kernel
theorem dX0_copyFrom_191 : decode cX0_copyFrom 191 = .ok (.putfield 90, 3) := by decide +kernel
theorem dX0_copyFrom_194 : decode cX0_copyFrom 194 = .ok (.aload_n 0, 1) := by decide +kernel
theorem dX0_copyFrom_195 : decode cX0_copyFrom 195 = .ok (.aload_n 1, 1) := by decide +kernel
theorem dX0_copyFrom_196 : decode cX0_copyFrom 196 = .ok (.getfield 93, 3) := by decide +kernel
theorem dX0_copyFrom_199 : decode cX0_copyFrom 199 = .ok (.putfield 93, 3) := by decide +kernel
theorem dX0_copyFrom_202 : decode cX0_copyFrom 202 = .ok (.return_, 1) := by decide +kernel
theorem dX0_takeIn_0 : decode cX0_takeIn 0 = .ok (.aload_n 1, 1) := by decide +kernel
theorem dX0_takeIn_1 : decode cX0_takeIn 1 = .ok (.getfield 96, 3) := by decide +kernel
theorem dX0_takeIn_4 : decode cX0_takeIn 4 = .ok (.iload_n 2, 1) := by decide +kernel
theorem dX0_takeIn_5 : decode cX0_takeIn 5 = .ok (.invokestatic 99, 3) := by decide +kernel
theorem dX0_takeIn_8 : decode cX0_takeIn 8 = .ok (.istore_n 3, 1) := by decide +kernel
theorem dX0_takeIn_9 : decode cX0_takeIn 9 = .ok (.aload_n 1, 1) := by decide +kernel
theorem dX0_takeIn_10 : decode cX0_takeIn 10 = .ok (.dup, 1) := by decide +kernel
theorem dX0_takeIn_11 : decode cX0_takeIn 11 = .ok (.getfield 96, 3) := by decide +kernel
theorem dX0_takeIn_14 : decode cX0_takeIn 14 = .ok (.iload_n 3, 1) := by decide +kernel
theorem dX0_takeIn_15 : decode cX0_takeIn 15 = .ok (.isub, 1) := by decide +kernel
theorem dX0_takeIn_16 : decode cX0_takeIn 16 = .ok (.putfield 96, 3) := by decide +kernel
theorem dX0_takeIn_19 : decode cX0_takeIn 19 = .ok (.aload_n 0, 1) := by decide +kernel
theorem dX0_takeIn_20 : decode cX0_takeIn 20 = .ok (.dup, 1) := by decide +kernel
theorem dX0_takeIn_21 : decode cX0_takeIn 21 = .ok (.getfield 93, 3) := by decide +kernel
theorem dX0_takeIn_24 : decode cX0_takeIn 24 = .ok (.iload_n 3, 1) := by decide +kernel
theorem dX0_takeIn_25 : decode cX0_takeIn 25 = .ok (.iadd, 1) := by decide +kernel
theorem dX0_takeIn_26 : decode cX0_takeIn 26 = .ok (.putfield 93, 3) := by decide +kernel
theorem dX0_takeIn_29 : decode cX0_takeIn 29 = .ok (.aload_n 1, 1) := by decide +kernel
theorem dX0_takeIn_30 : decode cX0_takeIn 30 = .ok (.dup, 1) := by decide +kernel
theorem dX0_takeIn_31 : decode cX0_takeIn 31 = .ok (.getfield 105, 3) := by decide +kernel
theorem dX0_takeIn_34 : decode cX0_takeIn 34 = .ok (.iload_n 2, 1) := by decide +kernel
theorem dX0_takeIn_35 : decode cX0_takeIn 35 = .ok (.iload_n 3, 1) := by decide +kernel
theorem dX0_takeIn_36 : decode cX0_takeIn 36 = .ok (.isub, 1) := by decide +kernel
theorem dX0_takeIn_37 : decode cX0_takeIn 37 = .ok (.iadd, 1) := by decide +kernel
theorem dX0_takeIn_38 : decode cX0_takeIn 38 = .ok (.putfield 105, 3) := by decide +kernel
theorem dX0_takeIn_41 : decode cX0_takeIn 41 = .ok (.return_, 1) := by decide +kernel
theorem dX0_takeBack_0 : decode cX0_takeBack 0 = .ok (.aload_n 0, 1) := by decide +kernel
theorem dX0_takeBack_1 : decode cX0_takeBack 1 = .ok (.aload_n 1, 1) := by decide +kernel
theorem dX0_takeBack_2 : decode cX0_takeBack 2 = .ok (.invokevirtual 108, 3) := by decide +kernel
theorem dX0_takeBack_5 : decode cX0_takeBack 5 = .ok (.iload_n 2, 1) := by decide +kernel
theorem dX0_takeBack_6 : decode cX0_takeBack 6 = .ok (.invokestatic 99, 3) := by decide +kernel
theorem dX0_takeBack_9 : decode cX0_takeBack 9 = .ok (.istore_n 3, 1) := by decide +kernel
theorem dX0_takeBack_10 : decode cX0_takeBack 10 = .ok (.aload_n 1, 1) := by decide +kernel
theorem dX0_takeBack_11 : decode cX0_takeBack 11 = .ok (.dup, 1) := by decide +kernel
theorem dX0_takeBack_12 : decode cX0_takeBack 12 = .ok (.getfield 105, 3) := by decide +kernel
theorem dX0_takeBack_15 : decode cX0_takeBack 15 = .ok (.iload_n 3, 1) := by decide +kernel
theorem dX0_takeBack_16 : decode cX0_takeBack 16 = .ok (.isub, 1) := by decide +kernel
theorem dX0_takeBack_17 : decode cX0_takeBack 17 = .ok (.putfield 105, 3) := by decide +kernel
theorem dX0_takeBack_20 : decode cX0_takeBack 20 = .ok (.aload_n 1, 1) := by decide +kernel
theorem dX0_takeBack_21 : decode cX0_takeBack 21 = .ok (.dup, 1) := by decide +kernel
theorem dX0_takeBack_22 : decode cX0_takeBack 22 = .ok (.getfield 96, 3) := by decide +kernel
theorem dX0_takeBack_25 : decode cX0_takeBack 25 = .ok (.iload_n 2, 1) := by decide +kernel
theorem dX0_takeBack_26 : decode cX0_takeBack 26 = .ok (.iload_n 3, 1) := by decide +kernel
theorem dX0_takeBack_27 : decode cX0_takeBack 27 = .ok (.isub, 1) := by decide +kernel
theorem dX0_takeBack_28 : decode cX0_takeBack 28 = .ok (.iadd, 1) := by decide +kernel
theorem dX0_takeBack_29 : decode cX0_takeBack 29 = .ok (.putfield 96, 3) := by decide +kernel
theorem dX0_takeBack_32 : decode cX0_takeBack 32 = .ok (.iload_n 2, 1) := by decide +kernel
theorem dX0_takeBack_33 : decode cX0_takeBack 33 = .ok (.iload_n 3, 1) := by decide +kernel
theorem dX0_takeBack_34 : decode cX0_takeBack 34 = .ok (.isub, 1) := by decide +kernel
theorem dX0_takeBack_35 : decode cX0_takeBack 35 = .ok (.ireturn, 1) := by decide +kernel
theorem dX0_mayLoad_0 : decode cX0_mayLoad 0 = .ok (.aload_n 1, 1) := by decide +kernel
theorem dX0_mayLoad_1 : decode cX0_mayLoad 1 = .ok (.getfield 105, 3) := by decide +kernel
theorem dX0_mayLoad_4 : decode cX0_mayLoad 4 = .ok (.ldc 112, 2) := by decide +kernel
theorem dX0_mayLoad_6 : decode cX0_mayLoad 6 = .ok (.iload_n 2, 1) := by decide +kernel
theorem dX0_mayLoad_7 : decode cX0_mayLoad 7 = .ok (.isub, 1) := by decide +kernel
theorem dX0_mayLoad_8 : decode cX0_mayLoad 8 = .ok (.if_icmp .gt 7, 3) := by decide +kernel
theorem dX0_mayLoad_11 : decode cX0_mayLoad 11 = .ok (.iconst 1, 1) := by decide +kernel
theorem dX0_mayLoad_12 : decode cX0_mayLoad 12 = .ok (.goto 4, 3) := by decide +kernel
theorem dX0_mayLoad_15 : decode cX0_mayLoad 15 = .ok (.iconst 0, 1) := by decide +kernel
theorem dX0_mayLoad_16 : decode cX0_mayLoad 16 = .ok (.ireturn, 1) := by decide +kernel
theorem dX0_addLoad_0 : decode cX0_addLoad 0 = .ok (.aload_n 0, 1) := by decide +kernel
theorem dX0_addLoad_1 : decode cX0_addLoad 1 = .ok (.dup, 1) := by decide +kernel
theorem dX0_addLoad_2 : decode cX0_addLoad 2 = .ok (.getfield 78, 3) := by decide +kernel
theorem dX0_addLoad_5 : decode cX0_addLoad 5 = .ok (.iload_n 2, 1) := by decide +kernel
theorem dX0_addLoad_6 : decode cX0_addLoad 6 = .ok (.iadd, 1) := by decide +kernel
theorem dX0_addLoad_7 : decode cX0_addLoad 7 = .ok (.putfield 78, 3) := by decide +kernel
theorem dX0_addLoad_10 : decode cX0_addLoad 10 = .ok (.aload_n 0, 1) := by decide +kernel
theorem dX0_addLoad_11 : decode cX0_addLoad 11 = .ok (.aload_n 1, 1) := by decide +kernel
theorem dX0_addLoad_12 : decode cX0_addLoad 12 = .ok (.iload_n 2, 1) := by decide +kernel
theorem dX0_addLoad_13 : decode cX0_addLoad 13 = .ok (.invokevirtual 113, 3) := by decide +kernel
theorem dX0_addLoad_16 : decode cX0_addLoad 16 = .ok (.return_, 1) := by decide +kernel
theorem dX0_payOut_0 : decode cX0_payOut 0 = .ok (.aload_n 1, 1) := by decide +kernel
theorem dX0_payOut_1 : decode cX0_payOut 1 = .ok (.getfield 105, 3) := by decide +kernel
theorem dX0_payOut_4 : decode cX0_payOut 4 = .ok (.istore_n 2, 1) := by decide +kernel
theorem dX0_payOut_5 : decode cX0_payOut 5 = .ok (.aload_n 1, 1) := by decide +kernel
theorem dX0_payOut_6 : decode cX0_payOut 6 = .ok (.iconst 0, 1) := by decide +kernel
theorem dX0_payOut_7 : decode cX0_payOut 7 = .ok (.putfield 105, 3) := by decide +kernel
theorem dX0_payOut_10 : decode cX0_payOut 10 = .ok (.aload_n 0, 1) := by decide +kernel
theorem dX0_payOut_11 : decode cX0_payOut 11 = .ok (.dup, 1) := by decide +kernel
theorem dX0_payOut_12 : decode cX0_payOut 12 = .ok (.getfield 81, 3) := by decide +kernel
theorem dX0_payOut_15 : decode cX0_payOut 15 = .ok (.iload_n 2, 1) := by decide +kernel
theorem dX0_payOut_16 : decode cX0_payOut 16 = .ok (.iadd, 1) := by decide +kernel
theorem dX0_payOut_17 : decode cX0_payOut 17 = .ok (.putfield 81, 3) := by decide +kernel
theorem dX0_payOut_20 : decode cX0_payOut 20 = .ok (.iload_n 2, 1) := by decide +kernel
theorem dX0_payOut_21 : decode cX0_payOut 21 = .ok (.ireturn, 1) := by decide +kernel
theorem dX0_freeOf_0 : decode cX0_freeOf 0 = .ok (.aload_n 1, 1) := by decide +kernel
theorem dX0_freeOf_1 : decode cX0_freeOf 1 = .ok (.getfield 105, 3) := by decide +kernel
theorem dX0_freeOf_4 : decode cX0_freeOf 4 = .ok (.aload_n 0, 1) := by decide +kernel
theorem dX0_freeOf_5 : decode cX0_freeOf 5 = .ok (.aload_n 1, 1) := by decide +kernel
theorem dX0_freeOf_6 : decode cX0_freeOf 6 = .ok (.invokevirtual 117, 3) := by decide +kernel
theorem dX0_freeOf_9 : decode cX0_freeOf 9 = .ok (.isub, 1) := by decide +kernel
theorem dX0_freeOf_10 : decode cX0_freeOf 10 = .ok (.ireturn, 1) := by decide +kernel
theorem dX0_keptIn_0 : decode cX0_keptIn 0 = .ok (.iconst 0, 1) := by decide +kernel
theorem dX0_keptIn_1 : decode cX0_keptIn 1 = .ok (.istore_n 2, 1) := by decide +kernel
theorem dX0_keptIn_2 : decode cX0_keptIn 2 = .ok (.iconst 0, 1) := by decide +kernel
theorem dX0_keptIn_3 : decode cX0_keptIn 3 = .ok (.istore_n 3, 1) := by decide +kernel
theorem dX0_keptIn_4 : decode cX0_keptIn 4 = .ok (.iload_n 3, 1) := by decide +kernel
theorem dX0_keptIn_5 : decode cX0_keptIn 5 = .ok (.aload_n 0, 1) := by decide +kernel
theorem dX0_keptIn_6 : decode cX0_keptIn 6 = .ok (.getfield 66, 3) := by decide +kernel
theorem dX0_keptIn_9 : decode cX0_keptIn 9 = .ok (.if_icmp .ge 34, 3) := by decide +kernel
theorem dX0_keptIn_12 : decode cX0_keptIn 12 = .ok (.aload_n 0, 1) := by decide +kernel
theorem dX0_keptIn_13 : decode cX0_keptIn 13 = .ok (.getfield 37, 3) := by decide +kernel
theorem dX0_keptIn_16 : decode cX0_keptIn 16 = .ok (.iload_n 3, 1) := by decide +kernel
theorem dX0_keptIn_17 : decode cX0_keptIn 17 = .ok (.aaload, 1) := by decide +kernel
theorem dX0_keptIn_18 : decode cX0_keptIn 18 = .ok (.aload_n 1, 1) := by decide +kernel
theorem dX0_keptIn_19 : decode cX0_keptIn 19 = .ok (.invokevirtual 120, 3) := by decide +kernel
theorem dX0_keptIn_22 : decode cX0_keptIn 22 = .ok (.ifCond .eq 15, 3) := by decide +kernel
theorem dX0_keptIn_25 : decode cX0_keptIn 25 = .ok (.iload_n 2, 1) := by decide +kernel
theorem dX0_keptIn_26 : decode cX0_keptIn 26 = .ok (.aload_n 0, 1) := by decide +kernel
theorem dX0_keptIn_27 : decode cX0_keptIn 27 = .ok (.getfield 37, 3) := by decide +kernel
theorem dX0_keptIn_30 : decode cX0_keptIn 30 = .ok (.iload_n 3, 1) := by decide +kernel
theorem dX0_keptIn_31 : decode cX0_keptIn 31 = .ok (.aaload, 1) := by decide +kernel
theorem dX0_keptIn_32 : decode cX0_keptIn 32 = .ok (.getfield 124, 3) := by decide +kernel
theorem dX0_keptIn_35 : decode cX0_keptIn 35 = .ok (.iadd, 1) := by decide +kernel
theorem dX0_keptIn_36 : decode cX0_keptIn 36 = .ok (.istore_n 2, 1) := by decide +kernel
theorem dX0_keptIn_37 : decode cX0_keptIn 37 = .ok (.iinc 3 1, 3) := by decide +kernel
theorem dX0_keptIn_40 : decode cX0_keptIn 40 = .ok (.goto (-36), 3) := by decide +kernel
theorem dX0_keptIn_43 : decode cX0_keptIn 43 = .ok (.iload_n 2, 1) := by decide +kernel
theorem dX0_keptIn_44 : decode cX0_keptIn 44 = .ok (.ireturn, 1) := by decide +kernel
theorem dX0_isLocked_0 : decode cX0_isLocked 0 = .ok (.aload_n 1, 1) := by decide +kernel
theorem dX0_isLocked_1 : decode cX0_isLocked 1 = .ok (.getfield 127, 3) := by decide +kernel
theorem dX0_isLocked_4 : decode cX0_isLocked 4 = .ok (.aload_n 0, 1) := by decide +kernel
theorem dX0_isLocked_5 : decode cX0_isLocked 5 = .ok (.getfield 52, 3) := by decide +kernel
theorem dX0_isLocked_8 : decode cX0_isLocked 8 = .ok (.if_icmp .lt 7, 3) := by decide +kernel
theorem dX0_isLocked_11 : decode cX0_isLocked 11 = .ok (.iconst 1, 1) := by decide +kernel
theorem dX0_isLocked_12 : decode cX0_isLocked 12 = .ok (.goto 4, 3) := by decide +kernel
theorem dX0_isLocked_15 : decode cX0_isLocked 15 = .ok (.iconst 0, 1) := by decide +kernel
theorem dX0_isLocked_16 : decode cX0_isLocked 16 = .ok (.ireturn, 1) := by decide +kernel
theorem dX0_rateOf_0 : decode cX0_rateOf 0 = .ok (.aload_n 0, 1) := by decide +kernel
theorem dX0_rateOf_1 : decode cX0_rateOf 1 = .ok (.aload_n 1, 1) := by decide +kernel
theorem dX0_rateOf_2 : decode cX0_rateOf 2 = .ok (.invokevirtual 130, 3) := by decide +kernel
theorem dX0_rateOf_5 : decode cX0_rateOf 5 = .ok (.ifCond .eq 10, 3) := by decide +kernel
theorem dX0_rateOf_8 : decode cX0_rateOf 8 = .ok (.aload_n 1, 1) := by decide +kernel
theorem dX0_rateOf_9 : decode cX0_rateOf 9 = .ok (.getfield 133, 3) := by decide +kernel
theorem dX0_rateOf_12 : decode cX0_rateOf 12 = .ok (.goto 12, 3) := by decide +kernel
theorem dX0_rateOf_15 : decode cX0_rateOf 15 = .ok (.aload_n 0, 1) := by decide +kernel
theorem dX0_rateOf_16 : decode cX0_rateOf 16 = .ok (.getfield 26, 3) := by decide +kernel
theorem dX0_rateOf_19 : decode cX0_rateOf 19 = .ok (.aload_n 1, 1) := by decide +kernel
theorem dX0_rateOf_20 : decode cX0_rateOf 20 = .ok (.getfield 136, 3) := by decide +kernel
theorem dX0_rateOf_23 : decode cX0_rateOf 23 = .ok (.iaload, 1) := by decide +kernel
theorem dX0_rateOf_24 : decode cX0_rateOf 24 = .ok (.ireturn, 1) := by decide +kernel
theorem dX0_isPair_0 : decode cX0_isPair 0 = .ok (.aload_n 1, 1) := by decide +kernel
theorem dX0_isPair_1 : decode cX0_isPair 1 = .ok (.getfield 136, 3) := by decide +kernel
theorem dX0_isPair_4 : decode cX0_isPair 4 = .ok (.aload_n 2, 1) := by decide +kernel
theorem dX0_isPair_5 : decode cX0_isPair 5 = .ok (.getfield 136, 3) := by decide +kernel
theorem dX0_isPair_8 : decode cX0_isPair 8 = .ok (.if_icmp .eq 21, 3) := by decide +kernel
theorem dX0_isPair_11 : decode cX0_isPair 11 = .ok (.aload_n 1, 1) := by decide +kernel
theorem dX0_isPair_12 : decode cX0_isPair 12 = .ok (.getfield 136, 3) := by decide +kernel
theorem dX0_isPair_15 : decode cX0_isPair 15 = .ok (.ifCond .eq 10, 3) := by decide +kernel
theorem dX0_isPair_18 : decode cX0_isPair 18 = .ok (.aload_n 2, 1) := by decide +kernel
theorem dX0_isPair_19 : decode cX0_isPair 19 = .ok (.getfield 136, 3) := by decide +kernel
theorem dX0_isPair_22 : decode cX0_isPair 22 = .ok (.ifCond .ne 7, 3) := by decide +kernel
theorem dX0_isPair_25 : decode cX0_isPair 25 = .ok (.iconst 1, 1) := by decide +kernel
theorem dX0_isPair_26 : decode cX0_isPair 26 = .ok (.goto 4, 3) := by decide +kernel
theorem dX0_isPair_29 : decode cX0_isPair 29 = .ok (.iconst 0, 1) := by decide +kernel
theorem dX0_isPair_30 : decode cX0_isPair 30 = .ok (.ireturn, 1) := by decide +kernel
theorem dX0_grossOf_0 : decode cX0_grossOf 0 = .ok (.aload_n 2, 1) := by decide +kernel
theorem dX0_grossOf_1 : decode cX0_grossOf 1 = .ok (.getfield 136, 3) := by decide +kernel
theorem dX0_grossOf_4 : decode cX0_grossOf 4 = .ok (.ifCond .ne 17, 3) := by decide +kernel
theorem dX0_grossOf_7 : decode cX0_grossOf 7 = .ok (.iload_n 3, 1) := by decide +kernel
theorem dX0_grossOf_8 : decode cX0_grossOf 8 = .ok (.i2l, 1) := by decide +kernel
theorem dX0_grossOf_9 : decode cX0_grossOf 9 = .ok (.aload_n 0, 1) := by decide +kernel
theorem dX0_grossOf_10 : decode cX0_grossOf 10 = .ok (.aload_n 1, 1) := by decide +kernel
theorem dX0_grossOf_11 : decode cX0_grossOf 11 = .ok (.invokevirtual 139, 3) := by decide +kernel
theorem dX0_grossOf_14 : decode cX0_grossOf 14 = .ok (.i2l, 1) := by decide +kernel
theorem dX0_grossOf_15 : decode cX0_grossOf 15 = .ok (.lmul, 1) := by decide +kernel
theorem dX0_grossOf_16 : decode cX0_grossOf 16 = .ok (.ldc2_w 142, 3) := by decide +kernel
theorem dX0_grossOf_19 : decode cX0_grossOf 19 = .ok (.ldiv, 1) := by decide +kernel
theorem dX0_grossOf_20 : decode cX0_grossOf 20 = .ok (.lreturn, 1) := by decide +kernel
theorem dX0_grossOf_21 : decode cX0_grossOf 21 = .ok (.aload_n 0, 1) := by decide +kernel
theorem dX0_grossOf_22 : decode cX0_grossOf 22 = .ok (.aload_n 2, 1) := by decide +kernel
theorem dX0_grossOf_23 : decode cX0_grossOf 23 = .ok (.invokevirtual 139, 3) := by decide +kernel
theorem dX0_grossOf_26 : decode cX0_grossOf 26 = .ok (.istore 4, 2) := by decide +kernel
theorem dX0_grossOf_28 : decode cX0_grossOf 28 = .ok (.iload 4, 2) := by decide +kernel
theorem dX0_grossOf_30 : decode cX0_grossOf 30 = .ok (.ifCond .le 16, 3) := by decide +kernel
theorem dX0_grossOf_33 : decode cX0_grossOf 33 = .ok (.iload_n 3, 1) := by decide +kernel
theorem dX0_grossOf_34 : decode cX0_grossOf 34 = .ok (.i2l, 1) := by decide +kernel
theorem dX0_grossOf_35 : decode cX0_grossOf 35 = .ok (.ldc2_w 142, 3) := by decide +kernel
theorem dX0_grossOf_38 : decode cX0_grossOf 38 = .ok (.lmul, 1) := by decide +kernel
theorem dX0_grossOf_39 : decode cX0_grossOf 39 = .ok (.iload 4, 2) := by decide +kernel
theorem dX0_grossOf_41 : decode cX0_grossOf 41 = .ok (.i2l, 1) := by decide +kernel
theorem dX0_grossOf_42 : decode cX0_grossOf 42 = .ok (.ldiv, 1) := by decide +kernel
theorem dX0_grossOf_43 : decode cX0_grossOf 43 = .ok (.goto 4, 3) := by decide +kernel
theorem dX0_grossOf_46 : decode cX0_grossOf 46 = .ok (.lconst 0, 1) := by decide +kernel
theorem dX0_grossOf_47 : decode cX0_grossOf 47 = .ok (.lreturn, 1) := by decide +kernel
theorem dX0_spreadOf_0 : decode cX0_spreadOf 0 = .ok (.lload_n 1, 1) := by decide +kernel
theorem dX0_spreadOf_1 : decode cX0_spreadOf 1 = .ok (.aload_n 0, 1) := by decide +kernel
theorem dX0_spreadOf_2 : decode cX0_spreadOf 2 = .ok (.getfield 18, 3) := by decide +kernel
theorem dX0_spreadOf_5 : decode cX0_spreadOf 5 = .ok (.iconst 1, 1) := by decide +kernel
theorem dX0_spreadOf_6 : decode cX0_spreadOf 6 = .ok (.iaload, 1) := by decide +kernel
theorem dX0_spreadOf_7 : decode cX0_spreadOf 7 = .ok (.i2l, 1) := by decide +kernel
theorem dX0_spreadOf_8 : decode cX0_spreadOf 8 = .ok (.lmul, 1) := by decide +kernel
theorem dX0_spreadOf_9 : decode cX0_spreadOf 9 = .ok (.ldc2_w 142, 3) := by decide +kernel
theorem dX0_spreadOf_12 : decode cX0_spreadOf 12 = .ok (.ldiv, 1) := by decide +kernel
theorem dX0_spreadOf_13 : decode cX0_spreadOf 13 = .ok (.l2i, 1) := by decide +kernel
theorem dX0_spreadOf_14 : decode cX0_spreadOf 14 = .ok (.ireturn, 1) := by decide +kernel
theorem dX0_netOf_0 : decode cX0_netOf 0 = .ok (.aload_n 0, 1) := by decide +kernel
theorem dX0_netOf_1 : decode cX0_netOf 1 = .ok (.aload_n 1, 1) := by decide +kernel
theorem dX0_netOf_2 : decode cX0_netOf 2 = .ok (.aload_n 2, 1) := by decide +kernel
theorem dX0_netOf_3 : decode cX0_netOf 3 = .ok (.iload_n 3, 1) := by decide +kernel
theorem dX0_netOf_4 : decode cX0_netOf 4 = .ok (.invokevirtual 144, 3) := by decide +kernel
theorem dX0_netOf_7 : decode cX0_netOf 7 = .ok (.lstore 4, 2) := by decide +kernel
theorem dX0_netOf_9 : decode cX0_netOf 9 = .ok (.lload 4, 2) := by decide +kernel
theorem dX0_netOf_11 : decode cX0_netOf 11 = .ok (.l2i, 1) := by decide +kernel
theorem dX0_netOf_12 : decode cX0_netOf 12 = .ok (.aload_n 0, 1) := by decide +kernel
theorem dX0_netOf_13 : decode cX0_netOf 13 = .ok (.lload 4, 2) := by decide +kernel
theorem dX0_netOf_15 : decode cX0_netOf 15 = .ok (.invokevirtual 148, 3) := by decide +kernel
theorem dX0_netOf_18 : decode cX0_netOf 18 = .ok (.isub, 1) := by decide +kernel
theorem dX0_netOf_19 : decode cX0_netOf 19 = .ok (.ireturn, 1) := by decide +kernel
theorem dX0_convert_0 : decode cX0_convert 0 = .ok (.aload_n 0, 1) := by decide +kernel
theorem dX0_convert_1 : decode cX0_convert 1 = .ok (.aload_n 1, 1) := by decide +kernel
theorem dX0_convert_2 : decode cX0_convert 2 = .ok (.aload_n 2, 1) := by decide +kernel
theorem dX0_convert_3 : decode cX0_convert 3 = .ok (.iload_n 3, 1) := by decide +kernel
theorem dX0_convert_4 : decode cX0_convert 4 = .ok (.invokevirtual 144, 3) := by decide +kernel
theorem dX0_convert_7 : decode cX0_convert 7 = .ok (.lstore 4, 2) := by decide +kernel
theorem dX0_convert_9 : decode cX0_convert 9 = .ok (.aload_n 0, 1) := by decide +kernel
theorem dX0_convert_10 : decode cX0_convert 10 = .ok (.lload 4, 2) := by decide +kernel
theorem dX0_convert_12 : decode cX0_convert 12 = .ok (.invokevirtual 148, 3) := by decide +kernel
theorem dX0_convert_15 : decode cX0_convert 15 = .ok (.istore 6, 2) := by decide +kernel
theorem dX0_convert_17 : decode cX0_convert 17 = .ok (.lload 4, 2) := by decide +kernel
theorem dX0_convert_19 : decode cX0_convert 19 = .ok (.l2i, 1) := by decide +kernel
theorem dX0_convert_20 : decode cX0_convert 20 = .ok (.iload 6, 2) := by decide +kernel
theorem dX0_convert_22 : decode cX0_convert 22 = .ok (.isub, 1) := by decide +kernel
theorem dX0_convert_23 : decode cX0_convert 23 = .ok (.istore 7, 2) := by decide +kernel
theorem dX0_convert_25 : decode cX0_convert 25 = .ok (.aload_n 0, 1) := by decide +kernel
theorem dX0_convert_26 : decode cX0_convert 26 = .ok (.dup, 1) := by decide +kernel
theorem dX0_convert_27 : decode cX0_convert 27 = .ok (.getfield 84, 3) := by decide +kernel
theorem dX0_convert_30 : decode cX0_convert 30 = .ok (.iconst 1, 1) := by decide +kernel
theorem dX0_convert_31 : decode cX0_convert 31 = .ok (.iadd, 1) := by decide +kernel
theorem dX0_convert_32 : decode cX0_convert 32 = .ok (.putfield 84, 3) := by decide +kernel
theorem dX0_convert_35 : decode cX0_convert 35 = .ok (.aload_n 2, 1) := by decide +kernel
theorem dX0_convert_36 : decode cX0_convert 36 = .ok (.getfield 136, 3) := by decide +kernel
theorem dX0_convert_39 : decode cX0_convert 39 = .ok (.ifCond .ne 17, 3) := by decide +kernel
theorem dX0_convert_42 : decode cX0_convert 42 = .ok (.aload_n 0, 1) := by decide +kernel
theorem dX0_convert_43 : decode cX0_convert 43 = .ok (.dup, 1) := by decide +kernel
theorem dX0_convert_44 : decode cX0_convert 44 = .ok (.getfield 87, 3) := by decide +kernel
theorem dX0_convert_47 : decode cX0_convert 47 = .ok (.iload 6, 2) := by decide +kernel
theorem dX0_convert_49 : decode cX0_convert 49 = .ok (.iadd, 1) := by decide +kernel
theorem dX0_convert_50 : decode cX0_convert 50 = .ok (.putfield 87, 3) := by decide +kernel
theorem dX0_convert_53 : decode cX0_convert 53 = .ok (.goto 14, 3) := by decide +kernel
theorem dX0_convert_56 : decode cX0_convert 56 = .ok (.aload_n 0, 1) := by decide +kernel
theorem dX0_convert_57 : decode cX0_convert 57 = .ok (.dup, 1) := by decide +kernel
theorem dX0_convert_58 : decode cX0_convert 58 = .ok (.getfield 90, 3) := by decide +kernel
theorem dX0_convert_61 : decode cX0_convert 61 = .ok (.iload 6, 2) := by decide +kernel
theorem dX0_convert_63 : decode cX0_convert 63 = .ok (.iadd, 1) := by decide +kernel
theorem dX0_convert_64 : decode cX0_convert 64 = .ok (.putfield 90, 3) := by decide +kernel
theorem dX0_convert_67 : decode cX0_convert 67 = .ok (.aload_n 1, 1) := by decide +kernel
theorem dX0_convert_68 : decode cX0_convert 68 = .ok (.dup, 1) := by decide +kernel
theorem dX0_convert_69 : decode cX0_convert 69 = .ok (.getfield 105, 3) := by decide +kernel
theorem dX0_convert_72 : decode cX0_convert 72 = .ok (.iload_n 3, 1) := by decide +kernel
theorem dX0_convert_73 : decode cX0_convert 73 = .ok (.isub, 1) := by decide +kernel
theorem dX0_convert_74 : decode cX0_convert 74 = .ok (.putfield 105, 3) := by decide +kernel
theorem dX0_convert_77 : decode cX0_convert 77 = .ok (.aload_n 0, 1) := by decide +kernel
theorem dX0_convert_78 : decode cX0_convert 78 = .ok (.aload_n 2, 1) := by decide +kernel
theorem dX0_convert_79 : decode cX0_convert 79 = .ok (.iload 7, 2) := by decide +kernel
theorem dX0_convert_81 : decode cX0_convert 81 = .ok (.invokevirtual 113, 3) := by decide +kernel
theorem dX0_convert_84 : decode cX0_convert 84 = .ok (.iload 7, 2) := by decide +kernel
theorem dX0_convert_86 : decode cX0_convert 86 = .ok (.ireturn, 1) := by decide +kernel
theorem dX0_exchangeReason_0 : decode cX0_exchangeReason 0 = .ok (.aload_n 0, 1) := by decide +kernel
theorem dX0_exchangeReason_1 : decode cX0_exchangeReason 1 = .ok (.aload_n 1, 1) := by decide +kernel
theorem dX0_exchangeReason_2 : decode cX0_exchangeReason 2 = .ok (.aload_n 2, 1) := by decide +kernel
theorem dX0_exchangeReason_3 : decode cX0_exchangeReason 3 = .ok (.invokevirtual 152, 3) := by decide +kernel
theorem dX0_exchangeReason_6 : decode cX0_exchangeReason 6 = .ok (.ifCond .ne 5, 3) := by decide +kernel
theorem dX0_exchangeReason_9 : decode cX0_exchangeReason 9 = .ok (.iconst 1, 1) := by decide +kernel
theorem dX0_exchangeReason_10 : decode cX0_exchangeReason 10 = .ok (.ireturn, 1) := by decide +kernel
theorem dX0_exchangeReason_11 : decode cX0_exchangeReason 11 = .ok (.aload_n 0, 1) := by decide +kernel
theorem dX0_exchangeReason_12 : decode cX0_exchangeReason 12 = .ok (.aload_n 1, 1) := by decide +kernel
theorem dX0_exchangeReason_13 : decode cX0_exchangeReason 13 = .ok (.invokevirtual 108, 3) := by decide +kernel
theorem dX0_exchangeReason_16 : decode cX0_exchangeReason 16 = .ok (.iload_n 3, 1) := by decide +kernel
theorem dX0_exchangeReason_17 : decode cX0_exchangeReason 17 = .ok (.if_icmp .ge 7, 3) := by decide +kernel
theorem dX0_exchangeReason_20 : decode cX0_exchangeReason 20 = .ok (.iconst 2, 1) := by decide +kernel
theorem dX0_exchangeReason_21 : decode cX0_exchangeReason 21 = .ok (.goto 4, 3) := by decide +kernel
theorem dX0_exchangeReason_24 : decode cX0_exchangeReason 24 = .ok (.iconst 0, 1) := by decide +kernel
theorem dX0_exchangeReason_25 : decode cX0_exchangeReason 25 = .ok (.ireturn, 1) := by decide +kernel
theorem dX0_holdReason_0 : decode cX0_holdReason 0 = .ok (.aload_n 0, 1) := by decide +kernel
theorem dX0_holdReason_1 : decode cX0_holdReason 1 = .ok (.aload_n 1, 1) := by decide +kernel
theorem dX0_holdReason_2 : decode cX0_holdReason 2 = .ok (.invokevirtual 108, 3) := by decide +kernel
theorem dX0_holdReason_5 : decode cX0_holdReason 5 = .ok (.aload_n 0, 1) := by decide +kernel
theorem dX0_holdReason_6 : decode cX0_holdReason 6 = .ok (.iload_n 2, 1) := by decide +kernel
theorem dX0_holdReason_7 : decode cX0_holdReason 7 = .ok (.invokevirtual 156, 3) := by decide +kernel
theorem dX0_holdReason_10 : decode cX0_holdReason 10 = .ok (.if_icmp .ge 5, 3) := by decide +kernel
theorem dX0_holdReason_13 : decode cX0_holdReason 13 = .ok (.iconst 2, 1) := by decide +kernel
theorem dX0_holdReason_14 : decode cX0_holdReason 14 = .ok (.ireturn, 1) := by decide +kernel
theorem dX0_holdReason_15 : decode cX0_holdReason 15 = .ok (.aload_n 0, 1) := by decide +kernel
theorem dX0_holdReason_16 : decode cX0_holdReason 16 = .ok (.getfield 66, 3) := by decide +kernel
theorem dX0_holdReason_19 : decode cX0_holdReason 19 = .ok (.bipush 8, 2) := by decide +kernel
theorem dX0_holdReason_21 : decode cX0_holdReason 21 = .ok (.if_icmp .lt 7, 3) := by decide +kernel
theorem dX0_holdReason_24 : decode cX0_holdReason 24 = .ok (.iconst 3, 1) := by decide +kernel
theorem dX0_holdReason_25 : decode cX0_holdReason 25 = .ok (.goto 4, 3) := by decide +kernel
theorem dX0_holdReason_28 : decode cX0_holdReason 28 = .ok (.iconst 0, 1) := by decide +kernel
theorem dX0_holdReason_29 : decode cX0_holdReason 29 = .ok (.ireturn, 1) := by decide +kernel
theorem dX0_closingReason_0 : decode cX0_closingReason 0 = .ok (.iconst 0, 1) := by decide +kernel
theorem dX0_closingReason_1 : decode cX0_closingReason 1 = .ok (.istore_n 2, 1) := by decide +kernel
theorem dX0_closingReason_2 : decode cX0_closingReason 2 = .ok (.iload_n 2, 1) := by decide +kernel
theorem dX0_closingReason_3 : decode cX0_closingReason 3 = .ok (.aload_n 0, 1) := by decide +kernel
theorem dX0_closingReason_4 : decode cX0_closingReason 4 = .ok (.getfield 66, 3) := by decide +kernel
theorem dX0_closingReason_7 : decode cX0_closingReason 7 = .ok (.if_icmp .ge 24, 3) := by decide +kernel
theorem dX0_closingReason_10 : decode cX0_closingReason 10 = .ok (.aload_n 0, 1) := by decide +kernel
theorem dX0_closingReason_11 : decode cX0_closingReason 11 = .ok (.getfield 37, 3) := by decide +kernel
theorem dX0_closingReason_14 : decode cX0_closingReason 14 = .ok (.iload_n 2, 1) := by decide +kernel
theorem dX0_closingReason_15 : decode cX0_closingReason 15 = .ok (.aaload, 1) := by decide +kernel
theorem dX0_closingReason_16 : decode cX0_closingReason 16 = .ok (.getfield 160, 3) := by decide +kernel
theorem dX0_closingReason_19 : decode cX0_closingReason 19 = .ok (.iload_n 1, 1) := by decide +kernel
theorem dX0_closingReason_20 : decode cX0_closingReason 20 = .ok (.if_icmp .ne 5, 3) := by decide +kernel
theorem dX0_closingReason_23 : decode cX0_closingReason 23 = .ok (.iconst 4, 1) := by decide +kernel
theorem dX0_closingReason_24 : decode cX0_closingReason 24 = .ok (.ireturn, 1) := by decide +kernel
theorem dX0_closingReason_25 : decode cX0_closingReason 25 = .ok (.iinc 2 1, 3) := by decide +kernel
theorem dX0_closingReason_28 : decode cX0_closingReason 28 = .ok (.goto (-26), 3) := by decide +kernel
theorem dX0_closingReason_31 : decode cX0_closingReason 31 = .ok (.iconst 0, 1) := by decide +kernel
theorem dX0_closingReason_32 : decode cX0_closingReason 32 = .ok (.istore_n 2, 1) := by decide +kernel
theorem dX0_closingReason_33 : decode cX0_closingReason 33 = .ok (.iload_n 2, 1) := by decide +kernel
theorem dX0_closingReason_34 : decode cX0_closingReason 34 = .ok (.aload_n 0, 1) := by decide +kernel
theorem dX0_closingReason_35 : decode cX0_closingReason 35 = .ok (.getfield 72, 3) := by decide +kernel
theorem dX0_closingReason_38 : decode cX0_closingReason 38 = .ok (.if_icmp .ge 37, 3) := by decide +kernel
theorem dX0_closingReason_41 : decode cX0_closingReason 41 = .ok (.aload_n 0, 1) := by decide +kernel
theorem dX0_closingReason_42 : decode cX0_closingReason 42 = .ok (.getfield 43, 3) := by decide +kernel
theorem dX0_closingReason_45 : decode cX0_closingReason 45 = .ok (.iload_n 2, 1) := by decide +kernel
theorem dX0_closingReason_46 : decode cX0_closingReason 46 = .ok (.aaload, 1) := by decide +kernel
theorem dX0_closingReason_47 : decode cX0_closingReason 47 = .ok (.getfield 163, 3) := by decide +kernel
theorem dX0_closingReason_50 : decode cX0_closingReason 50 = .ok (.iload_n 1, 1) := by decide +kernel
theorem dX0_closingReason_51 : decode cX0_closingReason 51 = .ok (.if_icmp .ne 18, 3) := by decide +kernel
theorem dX0_closingReason_54 : decode cX0_closingReason 54 = .ok (.aload_n 0, 1) := by decide +kernel
theorem dX0_closingReason_55 : decode cX0_closingReason 55 = .ok (.getfield 43, 3) := by decide +kernel
theorem dX0_closingReason_58 : decode cX0_closingReason 58 = .ok (.iload_n 2, 1) := by decide +kernel
theorem dX0_closingReason_59 : decode cX0_closingReason 59 = .ok (.aaload, 1) := by decide +kernel
theorem dX0_closingReason_60 : decode cX0_closingReason 60 = .ok (.getfield 164, 3) := by decide +kernel
theorem dX0_closingReason_63 : decode cX0_closingReason 63 = .ok (.iconst 1, 1) := by decide +kernel
theorem dX0_closingReason_64 : decode cX0_closingReason 64 = .ok (.if_icmp .ne 5, 3) := by decide +kernel
theorem dX0_closingReason_67 : decode cX0_closingReason 67 = .ok (.iconst 5, 1) := by decide +kernel
theorem dX0_closingReason_68 : decode cX0_closingReason 68 = .ok (.ireturn, 1) := by decide +kernel
theorem dX0_closingReason_69 : decode cX0_closingReason 69 = .ok (.iinc 2 1, 3) := by decide +kernel
theorem dX0_closingReason_72 : decode cX0_closingReason 72 = .ok (.goto (-39), 3) := by decide +kernel
theorem dX0_closingReason_75 : decode cX0_closingReason 75 = .ok (.iconst 0, 1) := by decide +kernel
theorem dX0_closingReason_76 : decode cX0_closingReason 76 = .ok (.istore_n 2, 1) := by decide +kernel
theorem dX0_closingReason_77 : decode cX0_closingReason 77 = .ok (.iload_n 2, 1) := by decide +kernel
theorem dX0_closingReason_78 : decode cX0_closingReason 78 = .ok (.aload_n 0, 1) := by decide +kernel
theorem dX0_closingReason_79 : decode cX0_closingReason 79 = .ok (.getfield 31, 3) := by decide +kernel
theorem dX0_closingReason_82 : decode cX0_closingReason 82 = .ok (.arraylength, 1) := by decide +kernel
theorem dX0_closingReason_83 : decode cX0_closingReason 83 = .ok (.if_icmp .ge 37, 3) := by decide +kernel
theorem dX0_closingReason_86 : decode cX0_closingReason 86 = .ok (.aload_n 0, 1) := by decide +kernel
theorem dX0_closingReason_87 : decode cX0_closingReason 87 = .ok (.getfield 31, 3) := by decide +kernel
theorem dX0_closingReason_90 : decode cX0_closingReason 90 = .ok (.iload_n 2, 1) := by decide +kernel
theorem dX0_closingReason_91 : decode cX0_closingReason 91 = .ok (.aaload, 1) := by decide +kernel
theorem dX0_closingReason_92 : decode cX0_closingReason 92 = .ok (.getfield 167, 3) := by decide +kernel
theorem dX0_closingReason_95 : decode cX0_closingReason 95 = .ok (.iload_n 1, 1) := by decide +kernel
theorem dX0_closingReason_96 : decode cX0_closingReason 96 = .ok (.if_icmp .ne 18, 3) := by decide +kernel
theorem dX0_closingReason_99 : decode cX0_closingReason 99 = .ok (.aload_n 0, 1) := by decide +kernel
theorem dX0_closingReason_100 : decode cX0_closingReason 100 = .ok (.getfield 31, 3) := by decide +kernel
theorem dX0_closingReason_103 : decode cX0_closingReason 103 = .ok (.iload_n 2, 1) := by decide +kernel
theorem dX0_closingReason_104 : decode cX0_closingReason 104 = .ok (.aaload, 1) := by decide +kernel
theorem dX0_closingReason_105 : decode cX0_closingReason 105 = .ok (.getfield 96, 3) := by decide +kernel
theorem dX0_closingReason_108 : decode cX0_closingReason 108 = .ok (.ifCond .le 6, 3) := by decide +kernel
theorem dX0_closingReason_111 : decode cX0_closingReason 111 = .ok (.bipush 6, 2) := by decide +kernel
theorem dX0_closingReason_113 : decode cX0_closingReason 113 = .ok (.ireturn, 1) := by decide +kernel
theorem dX0_closingReason_114 : decode cX0_closingReason 114 = .ok (.iinc 2 1, 3) := by decide +kernel
theorem dX0_closingReason_117 : decode cX0_closingReason 117 = .ok (.goto (-40), 3) := by decide +kernel
theorem dX0_closingReason_120 : decode cX0_closingReason 120 = .ok (.iconst 0, 1) := by decide +kernel
theorem dX0_closingReason_121 : decode cX0_closingReason 121 = .ok (.ireturn, 1) := by decide +kernel
theorem dX0_withTip_0 : decode cX0_withTip 0 = .ok (.iload_n 1, 1) := by decide +kernel
theorem dX0_withTip_1 : decode cX0_withTip 1 = .ok (.iload_n 1, 1) := by decide +kernel
theorem dX0_withTip_2 : decode cX0_withTip 2 = .ok (.aload_n 0, 1) := by decide +kernel
theorem dX0_withTip_3 : decode cX0_withTip 3 = .ok (.getfield 18, 3) := by decide +kernel
theorem dX0_withTip_6 : decode cX0_withTip 6 = .ok (.iconst 2, 1) := by decide +kernel
theorem dX0_withTip_7 : decode cX0_withTip 7 = .ok (.iaload, 1) := by decide +kernel
theorem dX0_withTip_8 : decode cX0_withTip 8 = .ok (.imul, 1) := by decide +kernel
theorem dX0_withTip_9 : decode cX0_withTip 9 = .ok (.bipush 100, 2) := by decide +kernel
theorem dX0_withTip_11 : decode cX0_withTip 11 = .ok (.idiv, 1) := by decide +kernel
theorem dX0_withTip_12 : decode cX0_withTip 12 = .ok (.iadd, 1) := by decide +kernel
theorem dX0_withTip_13 : decode cX0_withTip 13 = .ok (.ireturn, 1) := by decide +kernel
theorem dX0_addHold_0 : decode cX0_addHold 0 = .ok (.aload_n 0, 1) := by decide +kernel
theorem dX0_addHold_1 : decode cX0_addHold 1 = .ok (.getfield 66, 3) := by decide +kernel
theorem dX0_addHold_4 : decode cX0_addHold 4 = .ok (.aload_n 0, 1) := by decide +kernel
theorem dX0_addHold_5 : decode cX0_addHold 5 = .ok (.getfield 37, 3) := by decide +kernel
theorem dX0_addHold_8 : decode cX0_addHold 8 = .ok (.arraylength, 1) := by decide +kernel
theorem dX0_addHold_9 : decode cX0_addHold 9 = .ok (.if_icmp .lt 5, 3) := by decide +kernel
theorem dX0_addHold_12 : decode cX0_addHold 12 = .ok (.iconst (-1), 1) := by decide +kernel
theorem dX0_addHold_13 : decode cX0_addHold 13 = .ok (.ireturn, 1) := by decide +kernel
theorem dX0_addHold_14 : decode cX0_addHold 14 = .ok (.aload_n 0, 1) := by decide +kernel
theorem dX0_addHold_15 : decode cX0_addHold 15 = .ok (.getfield 37, 3) := by decide +kernel
theorem dX0_addHold_18 : decode cX0_addHold 18 = .ok (.aload_n 0, 1) := by decide +kernel
theorem dX0_addHold_19 : decode cX0_addHold 19 = .ok (.getfield 66, 3) := by decide +kernel
theorem dX0_addHold_22 : decode cX0_addHold 22 = .ok (.aaload, 1) := by decide +kernel
theorem dX0_addHold_23 : decode cX0_addHold 23 = .ok (.astore_n 3, 1) := by decide +kernel
theorem dX0_addHold_24 : decode cX0_addHold 24 = .ok (.aload_n 3, 1) := by decide +kernel
theorem dX0_addHold_25 : decode cX0_addHold 25 = .ok (.aload_n 1, 1) := by decide +kernel
theorem dX0_addHold_26 : decode cX0_addHold 26 = .ok (.getfield 167, 3) := by decide +kernel
theorem dX0_addHold_29 : decode cX0_addHold 29 = .ok (.putfield 160, 3) := by decide +kernel
theorem dX0_addHold_32 : decode cX0_addHold 32 = .ok (.aload_n 3, 1) := by decide +kernel
theorem dX0_addHold_33 : decode cX0_addHold 33 = .ok (.aload_n 1, 1) := by decide +kernel
theorem dX0_addHold_34 : decode cX0_addHold 34 = .ok (.getfield 136, 3) := by decide +kernel
theorem dX0_addHold_37 : decode cX0_addHold 37 = .ok (.putfield 168, 3) := by decide +kernel
theorem dX0_addHold_40 : decode cX0_addHold 40 = .ok (.aload_n 3, 1) := by decide +kernel
theorem dX0_addHold_41 : decode cX0_addHold 41 = .ok (.iload_n 2, 1) := by decide +kernel
theorem dX0_addHold_42 : decode cX0_addHold 42 = .ok (.putfield 169, 3) := by decide +kernel
theorem dX0_addHold_45 : decode cX0_addHold 45 = .ok (.aload_n 3, 1) := by decide +kernel
theorem dX0_addHold_46 : decode cX0_addHold 46 = .ok (.aload_n 0, 1) := by decide +kernel
theorem dX0_addHold_47 : decode cX0_addHold 47 = .ok (.iload_n 2, 1) := by decide +kernel
theorem dX0_addHold_48 : decode cX0_addHold 48 = .ok (.invokevirtual 156, 3) := by decide +kernel
theorem dX0_addHold_51 : decode cX0_addHold 51 = .ok (.putfield 124, 3) := by decide +kernel
theorem dX0_addHold_54 : decode cX0_addHold 54 = .ok (.aload_n 3, 1) := by decide +kernel
theorem dX0_addHold_55 : decode cX0_addHold 55 = .ok (.aload_n 0, 1) := by decide +kernel
theorem dX0_addHold_56 : decode cX0_addHold 56 = .ok (.getfield 52, 3) := by decide +kernel
theorem dX0_addHold_59 : decode cX0_addHold 59 = .ok (.putfield 172, 3) := by decide +kernel
theorem dX0_addHold_62 : decode cX0_addHold 62 = .ok (.aload_n 0, 1) := by decide +kernel
theorem dX0_addHold_63 : decode cX0_addHold 63 = .ok (.dup, 1) := by decide +kernel
theorem dX0_addHold_64 : decode cX0_addHold 64 = .ok (.getfield 66, 3) := by decide +kernel
theorem dX0_addHold_67 : decode cX0_addHold 67 = .ok (.iconst 1, 1) := by decide +kernel
theorem dX0_addHold_68 : decode cX0_addHold 68 = .ok (.iadd, 1) := by decide +kernel
theorem dX0_addHold_69 : decode cX0_addHold 69 = .ok (.putfield 66, 3) := by decide +kernel
theorem dX0_addHold_72 : decode cX0_addHold 72 = .ok (.aload_n 0, 1) := by decide +kernel
theorem dX0_addHold_73 : decode cX0_addHold 73 = .ok (.getfield 66, 3) := by decide +kernel
theorem dX0_addHold_76 : decode cX0_addHold 76 = .ok (.iconst 1, 1) := by decide +kernel
theorem dX0_addHold_77 : decode cX0_addHold 77 = .ok (.isub, 1) := by decide +kernel
theorem dX0_addHold_78 : decode cX0_addHold 78 = .ok (.ireturn, 1) := by decide +kernel
theorem dX0_dropHold_0 : decode cX0_dropHold 0 = .ok (.iload_n 1, 1) := by decide +kernel
theorem dX0_dropHold_1 : decode cX0_dropHold 1 = .ok (.ifCond .lt 23, 3) := by decide +kernel
theorem dX0_dropHold_4 : decode cX0_dropHold 4 = .ok (.iload_n 1, 1) := by decide +kernel
theorem dX0_dropHold_5 : decode cX0_dropHold 5 = .ok (.aload_n 0, 1) := by decide +kernel
theorem dX0_dropHold_6 : decode cX0_dropHold 6 = .ok (.getfield 66, 3) := by decide +kernel
theorem dX0_dropHold_9 : decode cX0_dropHold 9 = .ok (.if_icmp .ge 15, 3) := by decide +kernel
theorem dX0_dropHold_12 : decode cX0_dropHold 12 = .ok (.aload_n 0, 1) := by decide +kernel
theorem dX0_dropHold_13 : decode cX0_dropHold 13 = .ok (.getfield 66, 3) := by decide +kernel
theorem dX0_dropHold_16 : decode cX0_dropHold 16 = .ok (.aload_n 0, 1) := by decide +kernel
theorem dX0_dropHold_17 : decode cX0_dropHold 17 = .ok (.getfield 37, 3) := by decide +kernel
theorem dX0_dropHold_20 : decode cX0_dropHold 20 = .ok (.arraylength, 1) := by decide +kernel
theorem dX0_dropHold_21 : decode cX0_dropHold 21 = .ok (.if_icmp .le 4, 3) := by decide +kernel
theorem dX0_dropHold_24 : decode cX0_dropHold 24 = .ok (.return_, 1) := by decide +kernel
theorem dX0_dropHold_25 : decode cX0_dropHold 25 = .ok (.aload_n 0, 1) := by decide +kernel
theorem dX0_dropHold_26 : decode cX0_dropHold 26 = .ok (.getfield 37, 3) := by decide +kernel
theorem dX0_dropHold_29 : decode cX0_dropHold 29 = .ok (.iload_n 1, 1) := by decide +kernel
theorem dX0_dropHold_30 : decode cX0_dropHold 30 = .ok (.aaload, 1) := by decide +kernel
theorem dX0_dropHold_31 : decode cX0_dropHold 31 = .ok (.astore_n 2, 1) := by decide +kernel
theorem dX0_dropHold_32 : decode cX0_dropHold 32 = .ok (.iload_n 1, 1) := by decide +kernel
theorem dX0_dropHold_33 : decode cX0_dropHold 33 = .ok (.iconst 1, 1) := by decide +kernel
theorem dX0_dropHold_34 : decode cX0_dropHold 34 = .ok (.iadd, 1) := by decide +kernel
theorem dX0_dropHold_35 : decode cX0_dropHold 35 = .ok (.istore_n 3, 1) := by decide +kernel
theorem dX0_dropHold_36 : decode cX0_dropHold 36 = .ok (.iload_n 3, 1) := by decide +kernel
theorem dX0_dropHold_37 : decode cX0_dropHold 37 = .ok (.aload_n 0, 1) := by decide +kernel
theorem dX0_dropHold_38 : decode cX0_dropHold 38 = .ok (.getfield 66, 3) := by decide +kernel
theorem dX0_dropHold_41 : decode cX0_dropHold 41 = .ok (.if_icmp .ge 23, 3) := by decide +kernel
theorem dX0_dropHold_44 : decode cX0_dropHold 44 = .ok (.aload_n 0, 1) := by decide +kernel
theorem dX0_dropHold_45 : decode cX0_dropHold 45 = .ok (.getfield 37, 3) := by decide +kernel
theorem dX0_dropHold_48 : decode cX0_dropHold 48 = .ok (.iload_n 3, 1) := by decide +kernel
theorem dX0_dropHold_49 : decode cX0_dropHold 49 = .ok (.iconst 1, 1) := by decide +kernel
theorem dX0_dropHold_50 : decode cX0_dropHold 50 = .ok (.isub, 1) := by decide +kernel
theorem dX0_dropHold_51 : decode cX0_dropHold 51 = .ok (.aload_n 0, 1) := by decide +kernel
theorem dX0_dropHold_52 : decode cX0_dropHold 52 = .ok (.getfield 37, 3) := by decide +kernel
theorem dX0_dropHold_55 : decode cX0_dropHold 55 = .ok (.iload_n 3, 1) := by decide +kernel
theorem dX0_dropHold_56 : decode cX0_dropHold 56 = .ok (.aaload, 1) := by decide +kernel
theorem dX0_dropHold_57 : decode cX0_dropHold 57 = .ok (.aastore, 1) := by decide +kernel
theorem dX0_dropHold_58 : decode cX0_dropHold 58 = .ok (.iinc 3 1, 3) := by decide +kernel
theorem dX0_dropHold_61 : decode cX0_dropHold 61 = .ok (.goto (-25), 3) := by decide +kernel
theorem dX0_dropHold_64 : decode cX0_dropHold 64 = .ok (.aload_n 0, 1) := by decide +kernel
theorem dX0_dropHold_65 : decode cX0_dropHold 65 = .ok (.getfield 37, 3) := by decide +kernel
theorem dX0_dropHold_68 : decode cX0_dropHold 68 = .ok (.aload_n 0, 1) := by decide +kernel
theorem dX0_dropHold_69 : decode cX0_dropHold 69 = .ok (.getfield 66, 3) := by decide +kernel
theorem dX0_dropHold_72 : decode cX0_dropHold 72 = .ok (.iconst 1, 1) := by decide +kernel
theorem dX0_dropHold_73 : decode cX0_dropHold 73 = .ok (.isub, 1) := by decide +kernel
theorem dX0_dropHold_74 : decode cX0_dropHold 74 = .ok (.aload_n 2, 1) := by decide +kernel
theorem dX0_dropHold_75 : decode cX0_dropHold 75 = .ok (.aastore, 1) := by decide +kernel
theorem dX0_dropHold_76 : decode cX0_dropHold 76 = .ok (.aload_n 0, 1) := by decide +kernel
theorem dX0_dropHold_77 : decode cX0_dropHold 77 = .ok (.dup, 1) := by decide +kernel
theorem dX0_dropHold_78 : decode cX0_dropHold 78 = .ok (.getfield 66, 3) := by decide +kernel
theorem dX0_dropHold_81 : decode cX0_dropHold 81 = .ok (.iconst 1, 1) := by decide +kernel
theorem dX0_dropHold_82 : decode cX0_dropHold 82 = .ok (.isub, 1) := by decide +kernel
theorem dX0_dropHold_83 : decode cX0_dropHold 83 = .ok (.putfield 66, 3) := by decide +kernel
theorem dX0_dropHold_86 : decode cX0_dropHold 86 = .ok (.return_, 1) := by decide +kernel
theorem dX0_dropOldHolds_0 : decode cX0_dropOldHolds 0 = .ok (.iconst 0, 1) := by decide +kernel
theorem dX0_dropOldHolds_1 : decode cX0_dropOldHolds 1 = .ok (.istore_n 1, 1) := by decide +kernel
theorem dX0_dropOldHolds_2 : decode cX0_dropOldHolds 2 = .ok (.aload_n 0, 1) := by decide +kernel
theorem dX0_dropOldHolds_3 : decode cX0_dropOldHolds 3 = .ok (.getfield 66, 3) := by decide +kernel
theorem dX0_dropOldHolds_6 : decode cX0_dropOldHolds 6 = .ok (.iconst 1, 1) := by decide +kernel
theorem dX0_dropOldHolds_7 : decode cX0_dropOldHolds 7 = .ok (.isub, 1) := by decide +kernel
theorem dX0_dropOldHolds_8 : decode cX0_dropOldHolds 8 = .ok (.istore_n 2, 1) := by decide +kernel
theorem dX0_dropOldHolds_9 : decode cX0_dropOldHolds 9 = .ok (.iload_n 2, 1) := by decide +kernel
theorem dX0_dropOldHolds_10 : decode cX0_dropOldHolds 10 = .ok (.ifCond .lt 40, 3) := by decide +kernel
theorem dX0_dropOldHolds_13 : decode cX0_dropOldHolds 13 = .ok (.aload_n 0, 1) := by decide +kernel
theorem dX0_dropOldHolds_14 : decode cX0_dropOldHolds 14 = .ok (.getfield 52, 3) := by decide +kernel
theorem dX0_dropOldHolds_17 : decode cX0_dropOldHolds 17 = .ok (.aload_n 0, 1) := by decide +kernel
theorem dX0_dropOldHolds_18 : decode cX0_dropOldHolds 18 = .ok (.getfield 37, 3) := by decide +kernel
theorem dX0_dropOldHolds_21 : decode cX0_dropOldHolds 21 = .ok (.iload_n 2, 1) := by decide +kernel
theorem dX0_dropOldHolds_22 : decode cX0_dropOldHolds 22 = .ok (.aaload, 1) := by decide +kernel
theorem dX0_dropOldHolds_23 : decode cX0_dropOldHolds 23 = .ok (.getfield 172, 3) := by decide +kernel
theorem dX0_dropOldHolds_26 : decode cX0_dropOldHolds 26 = .ok (.isub, 1) := by decide +kernel
theorem dX0_dropOldHolds_27 : decode cX0_dropOldHolds 27 = .ok (.aload_n 0, 1) := by decide +kernel
theorem dX0_dropOldHolds_28 : decode cX0_dropOldHolds 28 = .ok (.getfield 18, 3) := by decide +kernel
theorem dX0_dropOldHolds_31 : decode cX0_dropOldHolds 31 = .ok (.iconst 3, 1) := by decide +kernel
theorem dX0_dropOldHolds_32 : decode cX0_dropOldHolds 32 = .ok (.iaload, 1) := by decide +kernel
theorem dX0_dropOldHolds_33 : decode cX0_dropOldHolds 33 = .ok (.if_icmp .le 11, 3) := by decide +kernel
theorem dX0_dropOldHolds_36 : decode cX0_dropOldHolds 36 = .ok (.aload_n 0, 1) := by decide +kernel
theorem dX0_dropOldHolds_37 : decode cX0_dropOldHolds 37 = .ok (.iload_n 2, 1) := by decide +kernel
