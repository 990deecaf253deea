theorem dX0_init_0 : decode cX0_init 0 = .ok (.aload_n 0, 1) := by decide +kernel
theorem dX0_init_1 : decode cX0_init 1 = .ok (.invokespecial 3, 3) := by decide +kernel
theorem dX0_init_4 : decode cX0_init 4 = .ok (.aload_n 0, 1) := by decide +kernel
theorem dX0_init_5 : decode cX0_init 5 = .ok (.iconst 1, 1) := by decide +kernel
theorem dX0_init_6 : decode cX0_init 6 = .ok (.putfield 9, 3) := by decide +kernel
theorem dX0_init_9 : decode cX0_init 9 = .ok (.aload_n 0, 1) := by decide +kernel
theorem dX0_init_10 : decode cX0_init 10 = .ok (.iconst 0, 1) := by decide +kernel
theorem dX0_init_11 : decode cX0_init 11 = .ok (.putfield 15, 3) := by decide +kernel
theorem dX0_init_14 : decode cX0_init 14 = .ok (.aload_n 0, 1) := by decide +kernel
theorem dX0_init_15 : decode cX0_init 15 = .ok (.iconst 0, 1) := by decide +kernel
theorem dX0_init_16 : decode cX0_init 16 = .ok (.putfield 18, 3) := by decide +kernel
theorem dX0_init_19 : decode cX0_init 19 = .ok (.aload_n 0, 1) := by decide +kernel
theorem dX0_init_20 : decode cX0_init 20 = .ok (.iconst 0, 1) := by decide +kernel
theorem dX0_init_21 : decode cX0_init 21 = .ok (.putfield 21, 3) := by decide +kernel
theorem dX0_init_24 : decode cX0_init 24 = .ok (.aload_n 0, 1) := by decide +kernel
theorem dX0_init_25 : decode cX0_init 25 = .ok (.bipush 100, 2) := by decide +kernel
theorem dX0_init_27 : decode cX0_init 27 = .ok (.putfield 24, 3) := by decide +kernel
theorem dX0_init_30 : decode cX0_init 30 = .ok (.aload_n 0, 1) := by decide +kernel
theorem dX0_init_31 : decode cX0_init 31 = .ok (.iconst 0, 1) := by decide +kernel
theorem dX0_init_32 : decode cX0_init 32 = .ok (.putfield 27, 3) := by decide +kernel
theorem dX0_init_35 : decode cX0_init 35 = .ok (.aload_n 0, 1) := by decide +kernel
theorem dX0_init_36 : decode cX0_init 36 = .ok (.iconst 0, 1) := by decide +kernel
theorem dX0_init_37 : decode cX0_init 37 = .ok (.putfield 30, 3) := by decide +kernel
theorem dX0_init_40 : decode cX0_init 40 = .ok (.aload_n 0, 1) := by decide +kernel
theorem dX0_init_41 : decode cX0_init 41 = .ok (.iconst 0, 1) := by decide +kernel
theorem dX0_init_42 : decode cX0_init 42 = .ok (.putfield 33, 3) := by decide +kernel
theorem dX0_init_45 : decode cX0_init 45 = .ok (.aload_n 0, 1) := by decide +kernel
theorem dX0_init_46 : decode cX0_init 46 = .ok (.iconst 0, 1) := by decide +kernel
theorem dX0_init_47 : decode cX0_init 47 = .ok (.putfield 36, 3) := by decide +kernel
theorem dX0_init_50 : decode cX0_init 50 = .ok (.aload_n 0, 1) := by decide +kernel
theorem dX0_init_51 : decode cX0_init 51 = .ok (.iconst 0, 1) := by decide +kernel
theorem dX0_init_52 : decode cX0_init 52 = .ok (.putfield 39, 3) := by decide +kernel
theorem dX0_init_55 : decode cX0_init 55 = .ok (.aload_n 0, 1) := by decide +kernel
theorem dX0_init_56 : decode cX0_init 56 = .ok (.bipush 6, 2) := by decide +kernel
theorem dX0_init_58 : decode cX0_init 58 = .ok (.newarray .long, 2) := by decide +kernel
theorem dX0_init_60 : decode cX0_init 60 = .ok (.putfield 42, 3) := by decide +kernel
theorem dX0_init_63 : decode cX0_init 63 = .ok (.aload_n 0, 1) := by decide +kernel
theorem dX0_init_64 : decode cX0_init 64 = .ok (.bipush 6, 2) := by decide +kernel
theorem dX0_init_66 : decode cX0_init 66 = .ok (.anewarray 46, 3) := by decide +kernel
theorem dX0_init_69 : decode cX0_init 69 = .ok (.putfield 48, 3) := by decide +kernel
theorem dX0_init_72 : decode cX0_init 72 = .ok (.aload_n 0, 1) := by decide +kernel
theorem dX0_init_73 : decode cX0_init 73 = .ok (.bipush 40, 2) := by decide +kernel
theorem dX0_init_75 : decode cX0_init 75 = .ok (.anewarray 52, 3) := by decide +kernel
theorem dX0_init_78 : decode cX0_init 78 = .ok (.putfield 54, 3) := by decide +kernel
theorem dX0_init_81 : decode cX0_init 81 = .ok (.aload_n 0, 1) := by decide +kernel
theorem dX0_init_82 : decode cX0_init 82 = .ok (.bipush 12, 2) := by decide +kernel
theorem dX0_init_84 : decode cX0_init 84 = .ok (.anewarray 58, 3) := by decide +kernel
theorem dX0_init_87 : decode cX0_init 87 = .ok (.putfield 60, 3) := by decide +kernel
theorem dX0_init_90 : decode cX0_init 90 = .ok (.iconst 0, 1) := by decide +kernel
theorem dX0_init_91 : decode cX0_init 91 = .ok (.istore_n 1, 1) := by decide +kernel
theorem dX0_init_92 : decode cX0_init 92 = .ok (.iload_n 1, 1) := by decide +kernel
theorem dX0_init_93 : decode cX0_init 93 = .ok (.bipush 6, 2) := by decide +kernel
theorem dX0_init_95 : decode cX0_init 95 = .ok (.if_icmp .ge 22, 3) := by decide +kernel
theorem dX0_init_98 : decode cX0_init 98 = .ok (.aload_n 0, 1) := by decide +kernel
theorem dX0_init_99 : decode cX0_init 99 = .ok (.getfield 48, 3) := by decide +kernel
theorem dX0_init_102 : decode cX0_init 102 = .ok (.iload_n 1, 1) := by decide +kernel
theorem dX0_init_103 : decode cX0_init 103 = .ok (.new 46, 3) := by decide +kernel
theorem dX0_init_106 : decode cX0_init 106 = .ok (.dup, 1) := by decide +kernel
theorem dX0_init_107 : decode cX0_init 107 = .ok (.invokespecial 64, 3) := by decide +kernel
theorem dX0_init_110 : decode cX0_init 110 = .ok (.aastore, 1) := by decide +kernel
theorem dX0_init_111 : decode cX0_init 111 = .ok (.iinc 1 1, 3) := by decide +kernel
theorem dX0_init_114 : decode cX0_init 114 = .ok (.goto (-22), 3) := by decide +kernel
theorem dX0_init_117 : decode cX0_init 117 = .ok (.iconst 0, 1) := by decide +kernel
theorem dX0_init_118 : decode cX0_init 118 = .ok (.istore_n 1, 1) := by decide +kernel
theorem dX0_init_119 : decode cX0_init 119 = .ok (.iload_n 1, 1) := by decide +kernel
theorem dX0_init_120 : decode cX0_init 120 = .ok (.bipush 40, 2) := by decide +kernel
theorem dX0_init_122 : decode cX0_init 122 = .ok (.if_icmp .ge 22, 3) := by decide +kernel
theorem dX0_init_125 : decode cX0_init 125 = .ok (.aload_n 0, 1) := by decide +kernel
theorem dX0_init_126 : decode cX0_init 126 = .ok (.getfield 54, 3) := by decide +kernel
theorem dX0_init_129 : decode cX0_init 129 = .ok (.iload_n 1, 1) := by decide +kernel
theorem dX0_init_130 : decode cX0_init 130 = .ok (.new 52, 3) := by decide +kernel
theorem dX0_init_133 : decode cX0_init 133 = .ok (.dup, 1) := by decide +kernel
theorem dX0_init_134 : decode cX0_init 134 = .ok (.invokespecial 65, 3) := by decide +kernel
theorem dX0_init_137 : decode cX0_init 137 = .ok (.aastore, 1) := by decide +kernel
theorem dX0_init_138 : decode cX0_init 138 = .ok (.iinc 1 1, 3) := by decide +kernel
theorem dX0_init_141 : decode cX0_init 141 = .ok (.goto (-22), 3) := by decide +kernel
theorem dX0_init_144 : decode cX0_init 144 = .ok (.iconst 0, 1) := by decide +kernel
theorem dX0_init_145 : decode cX0_init 145 = .ok (.istore_n 1, 1) := by decide +kernel
theorem dX0_init_146 : decode cX0_init 146 = .ok (.iload_n 1, 1) := by decide +kernel
theorem dX0_init_147 : decode cX0_init 147 = .ok (.bipush 12, 2) := by decide +kernel
theorem dX0_init_149 : decode cX0_init 149 = .ok (.if_icmp .ge 22, 3) := by decide +kernel
theorem dX0_init_152 : decode cX0_init 152 = .ok (.aload_n 0, 1) := by decide +kernel
theorem dX0_init_153 : decode cX0_init 153 = .ok (.getfield 60, 3) := by decide +kernel
theorem dX0_init_156 : decode cX0_init 156 = .ok (.iload_n 1, 1) := by decide +kernel
theorem dX0_init_157 : decode cX0_init 157 = .ok (.new 58, 3) := by decide +kernel
theorem dX0_init_160 : decode cX0_init 160 = .ok (.dup, 1) := by decide +kernel
theorem dX0_init_161 : decode cX0_init 161 = .ok (.invokespecial 66, 3) := by decide +kernel
theorem dX0_init_164 : decode cX0_init 164 = .ok (.aastore, 1) := by decide +kernel
theorem dX0_init_165 : decode cX0_init 165 = .ok (.iinc 1 1, 3) := by decide +kernel
theorem dX0_init_168 : decode cX0_init 168 = .ok (.goto (-22), 3) := by decide +kernel
theorem dX0_init_171 : decode cX0_init 171 = .ok (.return_, 1) := by decide +kernel
theorem dX0_copyFrom_0 : decode cX0_copyFrom 0 = .ok (.aload_n 0, 1) := by decide +kernel
theorem dX0_copyFrom_1 : decode cX0_copyFrom 1 = .ok (.aload_n 1, 1) := by decide +kernel
theorem dX0_copyFrom_2 : decode cX0_copyFrom 2 = .ok (.getfield 9, 3) := by decide +kernel
theorem dX0_copyFrom_5 : decode cX0_copyFrom 5 = .ok (.putfield 9, 3) := by decide +kernel
theorem dX0_copyFrom_8 : decode cX0_copyFrom 8 = .ok (.aload_n 0, 1) := by decide +kernel
theorem dX0_copyFrom_9 : decode cX0_copyFrom 9 = .ok (.aload_n 1, 1) := by decide +kernel
theorem dX0_copyFrom_10 : decode cX0_copyFrom 10 = .ok (.getfield 15, 3) := by decide +kernel
theorem dX0_copyFrom_13 : decode cX0_copyFrom 13 = .ok (.putfield 15, 3) := by decide +kernel
theorem dX0_copyFrom_16 : decode cX0_copyFrom 16 = .ok (.aload_n 0, 1) := by decide +kernel
theorem dX0_copyFrom_17 : decode cX0_copyFrom 17 = .ok (.aload_n 1, 1) := by decide +kernel
theorem dX0_copyFrom_18 : decode cX0_copyFrom 18 = .ok (.getfield 18, 3) := by decide +kernel
theorem dX0_copyFrom_21 : decode cX0_copyFrom 21 = .ok (.putfield 18, 3) := by decide +kernel
theorem dX0_copyFrom_24 : decode cX0_copyFrom 24 = .ok (.aload_n 0, 1) := by decide +kernel
theorem dX0_copyFrom_25 : decode cX0_copyFrom 25 = .ok (.aload_n 1, 1) := by decide +kernel
theorem dX0_copyFrom_26 : decode cX0_copyFrom 26 = .ok (.getfield 21, 3) := by decide +kernel
theorem dX0_copyFrom_29 : decode cX0_copyFrom 29 = .ok (.putfield 21, 3) := by decide +kernel
theorem dX0_copyFrom_32 : decode cX0_copyFrom 32 = .ok (.aload_n 0, 1) := by decide +kernel
theorem dX0_copyFrom_33 : decode cX0_copyFrom 33 = .ok (.aload_n 1, 1) := by decide +kernel
theorem dX0_copyFrom_34 : decode cX0_copyFrom 34 = .ok (.getfield 24, 3) := by decide +kernel
theorem dX0_copyFrom_37 : decode cX0_copyFrom 37 = .ok (.putfield 24, 3) := by decide +kernel
theorem dX0_copyFrom_40 : decode cX0_copyFrom 40 = .ok (.aload_n 0, 1) := by decide +kernel
theorem dX0_copyFrom_41 : decode cX0_copyFrom 41 = .ok (.aload_n 1, 1) := by decide +kernel
theorem dX0_copyFrom_42 : decode cX0_copyFrom 42 = .ok (.getfield 27, 3) := by decide +kernel
theorem dX0_copyFrom_45 : decode cX0_copyFrom 45 = .ok (.putfield 27, 3) := by decide +kernel
theorem dX0_copyFrom_48 : decode cX0_copyFrom 48 = .ok (.aload_n 0, 1) := by decide +kernel
theorem dX0_copyFrom_49 : decode cX0_copyFrom 49 = .ok (.aload_n 1, 1) := by decide +kernel
theorem dX0_copyFrom_50 : decode cX0_copyFrom 50 = .ok (.getfield 30, 3) := by decide +kernel
theorem dX0_copyFrom_53 : decode cX0_copyFrom 53 = .ok (.putfield 30, 3) := by decide +kernel
theorem dX0_copyFrom_56 : decode cX0_copyFrom 56 = .ok (.aload_n 0, 1) := by decide +kernel
theorem dX0_copyFrom_57 : decode cX0_copyFrom 57 = .ok (.aload_n 1, 1) := by decide +kernel
theorem dX0_copyFrom_58 : decode cX0_copyFrom 58 = .ok (.getfield 33, 3) := by decide +kernel
theorem dX0_copyFrom_61 : decode cX0_copyFrom 61 = .ok (.putfield 33, 3) := by decide +kernel
theorem dX0_copyFrom_64 : decode cX0_copyFrom 64 = .ok (.aload_n 0, 1) := by decide +kernel
theorem dX0_copyFrom_65 : decode cX0_copyFrom 65 = .ok (.aload_n 1, 1) := by decide +kernel
theorem dX0_copyFrom_66 : decode cX0_copyFrom 66 = .ok (.getfield 36, 3) := by decide +kernel
theorem dX0_copyFrom_69 : decode cX0_copyFrom 69 = .ok (.putfield 36, 3) := by decide +kernel
theorem dX0_copyFrom_72 : decode cX0_copyFrom 72 = .ok (.aload_n 0, 1) := by decide +kernel
theorem dX0_copyFrom_73 : decode cX0_copyFrom 73 = .ok (.aload_n 1, 1) := by decide +kernel
theorem dX0_copyFrom_74 : decode cX0_copyFrom 74 = .ok (.getfield 39, 3) := by decide +kernel
theorem dX0_copyFrom_77 : decode cX0_copyFrom 77 = .ok (.putfield 39, 3) := by decide +kernel
theorem dX0_copyFrom_80 : decode cX0_copyFrom 80 = .ok (.iconst 0, 1) := by decide +kernel
theorem dX0_copyFrom_81 : decode cX0_copyFrom 81 = .ok (.istore_n 2, 1) := by decide +kernel
theorem dX0_copyFrom_82 : decode cX0_copyFrom 82 = .ok (.iload_n 2, 1) := by decide +kernel
theorem dX0_copyFrom_83 : decode cX0_copyFrom 83 = .ok (.bipush 6, 2) := by decide +kernel
theorem dX0_copyFrom_85 : decode cX0_copyFrom 85 = .ok (.if_icmp .ge 21, 3) := by decide +kernel
theorem dX0_copyFrom_88 : decode cX0_copyFrom 88 = .ok (.aload_n 0, 1) := by decide +kernel
theorem dX0_copyFrom_89 : decode cX0_copyFrom 89 = .ok (.getfield 42, 3) := by decide +kernel
theorem dX0_copyFrom_92 : decode cX0_copyFrom 92 = .ok (.iload_n 2, 1) := by decide +kernel
theorem dX0_copyFrom_93 : decode cX0_copyFrom 93 = .ok (.aload_n 1, 1) := by decide +kernel
theorem dX0_copyFrom_94 : decode cX0_copyFrom 94 = .ok (.getfield 42, 3) := by decide +kernel
theorem dX0_copyFrom_97 : decode cX0_copyFrom 97 = .ok (.iload_n 2, 1) := by decide +kernel
theorem dX0_copyFrom_98 : decode cX0_copyFrom 98 = .ok (.laload, 1) := by decide +kernel
theorem dX0_copyFrom_99 : decode cX0_copyFrom 99 = .ok (.lastore, 1) := by decide +kernel
theorem dX0_copyFrom_100 : decode cX0_copyFrom 100 = .ok (.iinc 2 1, 3) := by decide +kernel
theorem dX0_copyFrom_103 : decode cX0_copyFrom 103 = .ok (.goto (-21), 3) := by decide +kernel
theorem dX0_copyFrom_106 : decode cX0_copyFrom 106 = .ok (.iconst 0, 1) := by decide +kernel
theorem dX0_copyFrom_107 : decode cX0_copyFrom 107 = .ok (.istore_n 2, 1) := by decide +kernel
theorem dX0_copyFrom_108 : decode cX0_copyFrom 108 = .ok (.iload_n 2, 1) := by decide +kernel
theorem dX0_copyFrom_109 : decode cX0_copyFrom 109 = .ok (.aload_n 0, 1) := by decide +kernel
theorem dX0_copyFrom_110 : decode cX0_copyFrom 110 = .ok (.getfield 33, 3) := by decide +kernel
theorem dX0_copyFrom_113 : decode cX0_copyFrom 113 = .ok (.if_icmp .ge 24, 3) := by decide +kernel
theorem dX0_copyFrom_116 : decode cX0_copyFrom 116 = .ok (.aload_n 0, 1) := by decide +kernel
theorem dX0_copyFrom_117 : decode cX0_copyFrom 117 = .ok (.getfield 48, 3) := by decide +kernel
theorem dX0_copyFrom_120 : decode cX0_copyFrom 120 = .ok (.iload_n 2, 1) := by decide +kernel
theorem dX0_copyFrom_121 : decode cX0_copyFrom 121 = .ok (.aaload, 1) := by decide +kernel
theorem dX0_copyFrom_122 : decode cX0_copyFrom 122 = .ok (.aload_n 1, 1) := by decide +kernel
theorem dX0_copyFrom_123 : decode cX0_copyFrom 123 = .ok (.getfield 48, 3) := by decide +kernel
theorem dX0_copyFrom_126 : decode cX0_copyFrom 126 = .ok (.iload_n 2, 1) := by decide +kernel
theorem dX0_copyFrom_127 : decode cX0_copyFrom 127 = .ok (.aaload, 1) := by decide +kernel
theorem dX0_copyFrom_128 : decode cX0_copyFrom 128 = .ok (.invokevirtual 67, 3) := by decide +kernel
theorem dX0_copyFrom_131 : decode cX0_copyFrom 131 = .ok (.iinc 2 1, 3) := by decide +kernel
theorem dX0_copyFrom_134 : decode cX0_copyFrom 134 = .ok (.goto (-26), 3) := by decide +kernel
theorem dX0_copyFrom_137 : decode cX0_copyFrom 137 = .ok (.iconst 0, 1) := by decide +kernel
theorem dX0_copyFrom_138 : decode cX0_copyFrom 138 = .ok (.istore_n 2, 1) := by decide +kernel
theorem dX0_copyFrom_139 : decode cX0_copyFrom 139 = .ok (.iload_n 2, 1) := by decide +kernel
theorem dX0_copyFrom_140 : decode cX0_copyFrom 140 = .ok (.aload_n 0, 1) := by decide +kernel
theorem dX0_copyFrom_141 : decode cX0_copyFrom 141 = .ok (.getfield 36, 3) := by decide +kernel
theorem dX0_copyFrom_144 : decode cX0_copyFrom 144 = .ok (.if_icmp .ge 24, 3) := by decide +kernel
theorem dX0_copyFrom_147 : decode cX0_copyFrom 147 = .ok (.aload_n 0, 1) := by decide +kernel
theorem dX0_copyFrom_148 : decode cX0_copyFrom 148 = .ok (.getfield 54, 3) := by decide +kernel
theorem dX0_copyFrom_151 : decode cX0_copyFrom 151 = .ok (.iload_n 2, 1) := by decide +kernel
theorem dX0_copyFrom_152 : decode cX0_copyFrom 152 = .ok (.aaload, 1) := by decide +kernel
theorem dX0_copyFrom_153 : decode cX0_copyFrom 153 = .ok (.aload_n 1, 1) := by decide +kernel
theorem dX0_copyFrom_154 : decode cX0_copyFrom 154 = .ok (.getfield 54, 3) := by decide +kernel
theorem dX0_copyFrom_157 : decode cX0_copyFrom 157 = .ok (.iload_n 2, 1) := by decide +kernel
theorem dX0_copyFrom_158 : decode cX0_copyFrom 158 = .ok (.aaload, 1) := by decide +kernel
theorem dX0_copyFrom_159 : decode cX0_copyFrom 159 = .ok (.invokevirtual 71, 3) := by decide +kernel
theorem dX0_copyFrom_162 : decode cX0_copyFrom 162 = .ok (.iinc 2 1, 3) := by decide +kernel
theorem dX0_copyFrom_165 : decode cX0_copyFrom 165 = .ok (.goto (-26), 3) := by decide +kernel
theorem dX0_copyFrom_168 : decode cX0_copyFrom 168 = .ok (.iconst 0, 1) := by decide +kernel
theorem dX0_copyFrom_169 : decode cX0_copyFrom 169 = .ok (.istore_n 2, 1) := by decide +kernel
theorem dX0_copyFrom_170 : decode cX0_copyFrom 170 = .ok (.iload_n 2, 1) := by decide +kernel
theorem dX0_copyFrom_171 : decode cX0_copyFrom 171 = .ok (.aload_n 0, 1) := by decide +kernel
theorem dX0_copyFrom_172 : decode cX0_copyFrom 172 = .ok (.getfield 39, 3) := by decide +kernel
theorem dX0_copyFrom_175 : decode cX0_copyFrom 175 = .ok (.if_icmp .ge 24, 3) := by decide +kernel
theorem dX0_copyFrom_178 : decode cX0_copyFrom 178 = .ok (.aload_n 0, 1) := by decide +kernel
theorem dX0_copyFrom_179 : decode cX0_copyFrom 179 = .ok (.getfield 60, 3) := by decide +kernel
theorem dX0_copyFrom_182 : decode cX0_copyFrom 182 = .ok (.iload_n 2, 1) := by decide +kernel
theorem dX0_copyFrom_183 : decode cX0_copyFrom 183 = .ok (.aaload, 1) := by decide +kernel
theorem dX0_copyFrom_184 : decode cX0_copyFrom 184 = .ok (.aload_n 1, 1) := by decide +kernel
theorem dX0_copyFrom_185 : decode cX0_copyFrom 185 = .ok (.getfield 60, 3) := by decide +kernel
theorem dX0_copyFrom_188 : decode cX0_copyFrom 188 = .ok (.iload_n 2, 1) := by decide +kernel
theorem dX0_copyFrom_189 : decode cX0_copyFrom 189 = .ok (.aaload, 1) := by decide +kernel
theorem dX0_copyFrom_190 : decode cX0_copyFrom 190 = .ok (.invokevirtual 74, 3) := by decide +kernel
theorem dX0_copyFrom_193 : decode cX0_copyFrom 193 = .ok (.iinc 2 1, 3) := by decide +kernel
theorem dX0_copyFrom_196 : decode cX0_copyFrom 196 = .ok (.goto (-26), 3) := by decide +kernel
theorem dX0_copyFrom_199 : decode cX0_copyFrom 199 = .ok (.return_, 1) := by decide +kernel
theorem dX0_empty_0 : decode cX0_empty 0 = .ok (.aload_n 0, 1) := by decide +kernel
theorem dX0_empty_1 : decode cX0_empty 1 = .ok (.iconst 0, 1) := by decide +kernel
theorem dX0_empty_2 : decode cX0_empty 2 = .ok (.putfield 27, 3) := by decide +kernel
theorem dX0_empty_5 : decode cX0_empty 5 = .ok (.aload_n 0, 1) := by decide +kernel
theorem dX0_empty_6 : decode cX0_empty 6 = .ok (.iconst 0, 1) := by decide +kernel
theorem dX0_empty_7 : decode cX0_empty 7 = .ok (.putfield 30, 3) := by decide +kernel
theorem dX0_empty_10 : decode cX0_empty 10 = .ok (.aload_n 0, 1) := by decide +kernel
theorem dX0_empty_11 : decode cX0_empty 11 = .ok (.iconst 0, 1) := by decide +kernel
theorem dX0_empty_12 : decode cX0_empty 12 = .ok (.putfield 33, 3) := by decide +kernel
theorem dX0_empty_15 : decode cX0_empty 15 = .ok (.aload_n 0, 1) := by decide +kernel
theorem dX0_empty_16 : decode cX0_empty 16 = .ok (.iconst 0, 1) := by decide +kernel
theorem dX0_empty_17 : decode cX0_empty 17 = .ok (.putfield 36, 3) := by decide +kernel
theorem dX0_empty_20 : decode cX0_empty 20 = .ok (.aload_n 0, 1) := by decide +kernel
theorem dX0_empty_21 : decode cX0_empty 21 = .ok (.iconst 0, 1) := by decide +kernel
theorem dX0_empty_22 : decode cX0_empty 22 = .ok (.putfield 39, 3) := by decide +kernel
theorem dX0_empty_25 : decode cX0_empty 25 = .ok (.iconst 0, 1) := by decide +kernel
theorem dX0_empty_26 : decode cX0_empty 26 = .ok (.istore_n 1, 1) := by decide +kernel
theorem dX0_empty_27 : decode cX0_empty 27 = .ok (.iload_n 1, 1) := by decide +kernel
theorem dX0_empty_28 : decode cX0_empty 28 = .ok (.bipush 6, 2) := by decide +kernel
theorem dX0_empty_30 : decode cX0_empty 30 = .ok (.if_icmp .ge 16, 3) := by decide +kernel
theorem dX0_empty_33 : decode cX0_empty 33 = .ok (.aload_n 0, 1) := by decide +kernel
theorem dX0_empty_34 : decode cX0_empty 34 = .ok (.getfield 42, 3) := by decide +kernel
theorem dX0_empty_37 : decode cX0_empty 37 = .ok (.iload_n 1, 1) := by decide +kernel
theorem dX0_empty_38 : decode cX0_empty 38 = .ok (.lconst 0, 1) := by decide +kernel
theorem dX0_empty_39 : decode cX0_empty 39 = .ok (.lastore, 1) := by decide +kernel
theorem dX0_empty_40 : decode cX0_empty 40 = .ok (.iinc 1 1, 3) := by decide +kernel
theorem dX0_empty_43 : decode cX0_empty 43 = .ok (.goto (-16), 3) := by decide +kernel
theorem dX0_empty_46 : decode cX0_empty 46 = .ok (.return_, 1) := by decide +kernel
theorem dX0_hasInvestor_0 : decode cX0_hasInvestor 0 = .ok (.iload_n 1, 1) := by decide +kernel
theorem dX0_hasInvestor_1 : decode cX0_hasInvestor 1 = .ok (.ifCond .lt 15, 3) := by decide +kernel
theorem dX0_hasInvestor_4 : decode cX0_hasInvestor 4 = .ok (.iload_n 1, 1) := by decide +kernel
theorem dX0_hasInvestor_5 : decode cX0_hasInvestor 5 = .ok (.aload_n 0, 1) := by decide +kernel
theorem dX0_hasInvestor_6 : decode cX0_hasInvestor 6 = .ok (.getfield 9, 3) := by decide +kernel
theorem dX0_hasInvestor_9 : decode cX0_hasInvestor 9 = .ok (.if_icmp .ge 7, 3) := by decide +kernel
theorem dX0_hasInvestor_12 : decode cX0_hasInvestor 12 = .ok (.iconst 1, 1) := by decide +kernel
theorem dX0_hasInvestor_13 : decode cX0_hasInvestor 13 = .ok (.goto 4, 3) := by decide +kernel
theorem dX0_hasInvestor_16 : decode cX0_hasInvestor 16 = .ok (.iconst 0, 1) := by decide +kernel
theorem dX0_hasInvestor_17 : decode cX0_hasInvestor 17 = .ok (.ireturn, 1) := by decide +kernel
theorem dX0_unitsHeldBy_0 : decode cX0_unitsHeldBy 0 = .ok (.lconst 0, 1) := by decide +kernel
theorem dX0_unitsHeldBy_1 : decode cX0_unitsHeldBy 1 = .ok (.lstore_n 2, 1) := by decide +kernel
theorem dX0_unitsHeldBy_2 : decode cX0_unitsHeldBy 2 = .ok (.iconst 0, 1) := by decide +kernel
theorem dX0_unitsHeldBy_3 : decode cX0_unitsHeldBy 3 = .ok (.istore 4, 2) := by decide +kernel
theorem dX0_unitsHeldBy_5 : decode cX0_unitsHeldBy 5 = .ok (.iload 4, 2) := by decide +kernel
theorem dX0_unitsHeldBy_7 : decode cX0_unitsHeldBy 7 = .ok (.aload_n 0, 1) := by decide +kernel
theorem dX0_unitsHeldBy_8 : decode cX0_unitsHeldBy 8 = .ok (.getfield 36, 3) := by decide +kernel
theorem dX0_unitsHeldBy_11 : decode cX0_unitsHeldBy 11 = .ok (.if_icmp .ge 36, 3) := by decide +kernel
theorem dX0_unitsHeldBy_14 : decode cX0_unitsHeldBy 14 = .ok (.aload_n 0, 1) := by decide +kernel
theorem dX0_unitsHeldBy_15 : decode cX0_unitsHeldBy 15 = .ok (.getfield 54, 3) := by decide +kernel
theorem dX0_unitsHeldBy_18 : decode cX0_unitsHeldBy 18 = .ok (.iload 4, 2) := by decide +kernel
theorem dX0_unitsHeldBy_20 : decode cX0_unitsHeldBy 20 = .ok (.aaload, 1) := by decide +kernel
theorem dX0_unitsHeldBy_21 : decode cX0_unitsHeldBy 21 = .ok (.getfield 77, 3) := by decide +kernel
theorem dX0_unitsHeldBy_24 : decode cX0_unitsHeldBy 24 = .ok (.iload_n 1, 1) := by decide +kernel
theorem dX0_unitsHeldBy_25 : decode cX0_unitsHeldBy 25 = .ok (.if_icmp .ne 16, 3) := by decide +kernel
theorem dX0_unitsHeldBy_28 : decode cX0_unitsHeldBy 28 = .ok (.lload_n 2, 1) := by decide +kernel
theorem dX0_unitsHeldBy_29 : decode cX0_unitsHeldBy 29 = .ok (.aload_n 0, 1) := by decide +kernel
theorem dX0_unitsHeldBy_30 : decode cX0_unitsHeldBy 30 = .ok (.getfield 54, 3) := by decide +kernel
theorem dX0_unitsHeldBy_33 : decode cX0_unitsHeldBy 33 = .ok (.iload 4, 2) := by decide +kernel
theorem dX0_unitsHeldBy_35 : decode cX0_unitsHeldBy 35 = .ok (.aaload, 1) := by decide +kernel
theorem dX0_unitsHeldBy_36 : decode cX0_unitsHeldBy 36 = .ok (.getfield 80, 3) := by decide +kernel
theorem dX0_unitsHeldBy_39 : decode cX0_unitsHeldBy 39 = .ok (.ladd, 1) := by decide +kernel
theorem dX0_unitsHeldBy_40 : decode cX0_unitsHeldBy 40 = .ok (.lstore_n 2, 1) := by decide +kernel
theorem dX0_unitsHeldBy_41 : decode cX0_unitsHeldBy 41 = .ok (.iinc 4 1, 3) := by decide +kernel
theorem dX0_unitsHeldBy_44 : decode cX0_unitsHeldBy 44 = .ok (.goto (-39), 3) := by decide +kernel
theorem dX0_unitsHeldBy_47 : decode cX0_unitsHeldBy 47 = .ok (.lload_n 2, 1) := by decide +kernel
theorem dX0_unitsHeldBy_48 : decode cX0_unitsHeldBy 48 = .ok (.lreturn, 1) := by decide +kernel
theorem dX0_unitsHeldIn_0 : decode cX0_unitsHeldIn 0 = .ok (.lconst 0, 1) := by decide +kernel
theorem dX0_unitsHeldIn_1 : decode cX0_unitsHeldIn 1 = .ok (.lstore_n 3, 1) := by decide +kernel
theorem dX0_unitsHeldIn_2 : decode cX0_unitsHeldIn 2 = .ok (.iconst 0, 1) := by decide +kernel
theorem dX0_unitsHeldIn_3 : decode cX0_unitsHeldIn 3 = .ok (.istore 5, 2) := by decide +kernel
theorem dX0_unitsHeldIn_5 : decode cX0_unitsHeldIn 5 = .ok (.iload 5, 2) := by decide +kernel
theorem dX0_unitsHeldIn_7 : decode cX0_unitsHeldIn 7 = .ok (.aload_n 0, 1) := by decide +kernel
theorem dX0_unitsHeldIn_8 : decode cX0_unitsHeldIn 8 = .ok (.getfield 36, 3) := by decide +kernel
theorem dX0_unitsHeldIn_11 : decode cX0_unitsHeldIn 11 = .ok (.if_icmp .ge 50, 3) := by decide +kernel
theorem dX0_unitsHeldIn_14 : decode cX0_unitsHeldIn 14 = .ok (.aload_n 0, 1) := by decide +kernel
theorem dX0_unitsHeldIn_15 : decode cX0_unitsHeldIn 15 = .ok (.getfield 54, 3) := by decide +kernel
theorem dX0_unitsHeldIn_18 : decode cX0_unitsHeldIn 18 = .ok (.iload 5, 2) := by decide +kernel
theorem dX0_unitsHeldIn_20 : decode cX0_unitsHeldIn 20 = .ok (.aaload, 1) := by decide +kernel
theorem dX0_unitsHeldIn_21 : decode cX0_unitsHeldIn 21 = .ok (.getfield 77, 3) := by decide +kernel
theorem dX0_unitsHeldIn_24 : decode cX0_unitsHeldIn 24 = .ok (.iload_n 1, 1) := by decide +kernel
theorem dX0_unitsHeldIn_25 : decode cX0_unitsHeldIn 25 = .ok (.if_icmp .ne 30, 3) := by decide +kernel
theorem dX0_unitsHeldIn_28 : decode cX0_unitsHeldIn 28 = .ok (.aload_n 0, 1) := by decide +kernel
theorem dX0_unitsHeldIn_29 : decode cX0_unitsHeldIn 29 = .ok (.getfield 54, 3) := by decide +kernel
theorem dX0_unitsHeldIn_32 : decode cX0_unitsHeldIn 32 = .ok (.iload 5, 2) := by decide +kernel
theorem dX0_unitsHeldIn_34 : decode cX0_unitsHeldIn 34 = .ok (.aaload, 1) := by decide +kernel
theorem dX0_unitsHeldIn_35 : decode cX0_unitsHeldIn 35 = .ok (.getfield 84, 3) := by decide +kernel
theorem dX0_unitsHeldIn_38 : decode cX0_unitsHeldIn 38 = .ok (.iload_n 2, 1) := by decide +kernel
theorem dX0_unitsHeldIn_39 : decode cX0_unitsHeldIn 39 = .ok (.if_icmp .ne 16, 3) := by decide +kernel
theorem dX0_unitsHeldIn_42 : decode cX0_unitsHeldIn 42 = .ok (.lload_n 3, 1) := by decide +kernel
theorem dX0_unitsHeldIn_43 : decode cX0_unitsHeldIn 43 = .ok (.aload_n 0, 1) := by decide +kernel
theorem dX0_unitsHeldIn_44 : decode cX0_unitsHeldIn 44 = .ok (.getfield 54, 3) := by decide +kernel
theorem dX0_unitsHeldIn_47 : decode cX0_unitsHeldIn 47 = .ok (.iload 5, 2) := by decide +kernel
theorem dX0_unitsHeldIn_49 : decode cX0_unitsHeldIn 49 = .ok (.aaload, 1) := by decide +kernel
theorem dX0_unitsHeldIn_50 : decode cX0_unitsHeldIn 50 = .ok (.getfield 80, 3) := by decide +kernel
theorem dX0_unitsHeldIn_53 : decode cX0_unitsHeldIn 53 = .ok (.ladd, 1) := by decide +kernel
theorem dX0_unitsHeldIn_54 : decode cX0_unitsHeldIn 54 = .ok (.lstore_n 3, 1) := by decide +kernel
theorem dX0_unitsHeldIn_55 : decode cX0_unitsHeldIn 55 = .ok (.iinc 5 1, 3) := by decide +kernel
theorem dX0_unitsHeldIn_58 : decode cX0_unitsHeldIn 58 = .ok (.goto (-53), 3) := by decide +kernel
theorem dX0_unitsHeldIn_61 : decode cX0_unitsHeldIn 61 = .ok (.lload_n 3, 1) := by decide +kernel
theorem dX0_unitsHeldIn_62 : decode cX0_unitsHeldIn 62 = .ok (.lreturn, 1) := by decide +kernel
theorem dX0_lotsOfSeries_0 : decode cX0_lotsOfSeries 0 = .ok (.iconst 0, 1) := by decide +kernel
theorem dX0_lotsOfSeries_1 : decode cX0_lotsOfSeries 1 = .ok (.istore_n 2, 1) := by decide +kernel
theorem dX0_lotsOfSeries_2 : decode cX0_lotsOfSeries 2 = .ok (.iconst 0, 1) := by decide +kernel
theorem dX0_lotsOfSeries_3 : decode cX0_lotsOfSeries 3 = .ok (.istore_n 3, 1) := by decide +kernel
theorem dX0_lotsOfSeries_4 : decode cX0_lotsOfSeries 4 = .ok (.iload_n 3, 1) := by decide +kernel
theorem dX0_lotsOfSeries_5 : decode cX0_lotsOfSeries 5 = .ok (.aload_n 0, 1) := by decide +kernel
theorem dX0_lotsOfSeries_6 : decode cX0_lotsOfSeries 6 = .ok (.getfield 36, 3) := by decide +kernel
theorem dX0_lotsOfSeries_9 : decode cX0_lotsOfSeries 9 = .ok (.if_icmp .ge 25, 3) := by decide +kernel
theorem dX0_lotsOfSeries_12 : decode cX0_lotsOfSeries 12 = .ok (.aload_n 0, 1) := by decide +kernel
theorem dX0_lotsOfSeries_13 : decode cX0_lotsOfSeries 13 = .ok (.getfield 54, 3) := by decide +kernel
theorem dX0_lotsOfSeries_16 : decode cX0_lotsOfSeries 16 = .ok (.iload_n 3, 1) := by decide +kernel
theorem dX0_lotsOfSeries_17 : decode cX0_lotsOfSeries 17 = .ok (.aaload, 1) := by decide +kernel
theorem dX0_lotsOfSeries_18 : decode cX0_lotsOfSeries 18 = .ok (.getfield 84, 3) := by decide +kernel
theorem dX0_lotsOfSeries_21 : decode cX0_lotsOfSeries 21 = .ok (.iload_n 1, 1) := by decide +kernel
theorem dX0_lotsOfSeries_22 : decode cX0_lotsOfSeries 22 = .ok (.if_icmp .ne 6, 3) := by decide +kernel
theorem dX0_lotsOfSeries_25 : decode cX0_lotsOfSeries 25 = .ok (.iinc 2 1, 3) := by decide +kernel
theorem dX0_lotsOfSeries_28 : decode cX0_lotsOfSeries 28 = .ok (.iinc 3 1, 3) := by decide +kernel
theorem dX0_lotsOfSeries_31 : decode cX0_lotsOfSeries 31 = .ok (.goto (-27), 3) := by decide +kernel
theorem dX0_lotsOfSeries_34 : decode cX0_lotsOfSeries 34 = .ok (.iload_n 2, 1) := by decide +kernel
theorem dX0_lotsOfSeries_35 : decode cX0_lotsOfSeries 35 = .ok (.ireturn, 1) := by decide +kernel
theorem dX0_placeOfSeries_0 : decode cX0_placeOfSeries 0 = .ok (.iconst 0, 1) := by decide +kernel
theorem dX0_placeOfSeries_1 : decode cX0_placeOfSeries 1 = .ok (.istore_n 2, 1) := by decide +kernel
theorem dX0_placeOfSeries_2 : decode cX0_placeOfSeries 2 = .ok (.iload_n 2, 1) := by decide +kernel
theorem dX0_placeOfSeries_3 : decode cX0_placeOfSeries 3 = .ok (.aload_n 0, 1) := by decide +kernel
theorem dX0_placeOfSeries_4 : decode cX0_placeOfSeries 4 = .ok (.getfield 33, 3) := by decide +kernel
theorem dX0_placeOfSeries_7 : decode cX0_placeOfSeries 7 = .ok (.if_icmp .ge 24, 3) := by decide +kernel
theorem dX0_placeOfSeries_10 : decode cX0_placeOfSeries 10 = .ok (.aload_n 0, 1) := by decide +kernel
theorem dX0_placeOfSeries_11 : decode cX0_placeOfSeries 11 = .ok (.getfield 48, 3) := by decide +kernel
theorem dX0_placeOfSeries_14 : decode cX0_placeOfSeries 14 = .ok (.iload_n 2, 1) := by decide +kernel
theorem dX0_placeOfSeries_15 : decode cX0_placeOfSeries 15 = .ok (.aaload, 1) := by decide +kernel
theorem dX0_placeOfSeries_16 : decode cX0_placeOfSeries 16 = .ok (.getfield 86, 3) := by decide +kernel
theorem dX0_placeOfSeries_19 : decode cX0_placeOfSeries 19 = .ok (.iload_n 1, 1) := by decide +kernel
theorem dX0_placeOfSeries_20 : decode cX0_placeOfSeries 20 = .ok (.if_icmp .ne 5, 3) := by decide +kernel
theorem dX0_placeOfSeries_23 : decode cX0_placeOfSeries 23 = .ok (.iload_n 2, 1) := by decide +kernel
theorem dX0_placeOfSeries_24 : decode cX0_placeOfSeries 24 = .ok (.ireturn, 1) := by decide +kernel
theorem dX0_placeOfSeries_25 : decode cX0_placeOfSeries 25 = .ok (.iinc 2 1, 3) := by decide +kernel
theorem dX0_placeOfSeries_28 : decode cX0_placeOfSeries 28 = .ok (.goto (-26), 3) := by decide +kernel
theorem dX0_placeOfSeries_31 : decode cX0_placeOfSeries 31 = .ok (.iconst (-1), 1) := by decide +kernel
theorem dX0_placeOfSeries_32 : decode cX0_placeOfSeries 32 = .ok (.ireturn, 1) := by decide +kernel
theorem dX0_netOfAll_0 : decode cX0_netOfAll 0 = .ok (.lconst 0, 1) := by decide +kernel
theorem dX0_netOfAll_1 : decode cX0_netOfAll 1 = .ok (.lstore_n 1, 1) := by decide +kernel
theorem dX0_netOfAll_2 : decode cX0_netOfAll 2 = .ok (.iconst 0, 1) := by decide +kernel
theorem dX0_netOfAll_3 : decode cX0_netOfAll 3 = .ok (.istore_n 3, 1) := by decide +kernel
theorem dX0_netOfAll_4 : decode cX0_netOfAll 4 = .ok (.iload_n 3, 1) := by decide +kernel
theorem dX0_netOfAll_5 : decode cX0_netOfAll 5 = .ok (.aload_n 0, 1) := by decide +kernel
theorem dX0_netOfAll_6 : decode cX0_netOfAll 6 = .ok (.getfield 33, 3) := by decide +kernel
theorem dX0_netOfAll_9 : decode cX0_netOfAll 9 = .ok (.if_icmp .ge 35, 3) := by decide +kernel
theorem dX0_netOfAll_12 : decode cX0_netOfAll 12 = .ok (.lload_n 1, 1) := by decide +kernel
theorem dX0_netOfAll_13 : decode cX0_netOfAll 13 = .ok (.aload_n 0, 1) := by decide +kernel
theorem dX0_netOfAll_14 : decode cX0_netOfAll 14 = .ok (.getfield 48, 3) := by decide +kernel
theorem dX0_netOfAll_17 : decode cX0_netOfAll 17 = .ok (.iload_n 3, 1) := by decide +kernel
theorem dX0_netOfAll_18 : decode cX0_netOfAll 18 = .ok (.aaload, 1) := by decide +kernel
theorem dX0_netOfAll_19 : decode cX0_netOfAll 19 = .ok (.getfield 89, 3) := by decide +kernel
theorem dX0_netOfAll_22 : decode cX0_netOfAll 22 = .ok (.aload_n 0, 1) := by decide +kernel
theorem dX0_netOfAll_23 : decode cX0_netOfAll 23 = .ok (.getfield 48, 3) := by decide +kernel
theorem dX0_netOfAll_26 : decode cX0_netOfAll 26 = .ok (.iload_n 3, 1) := by decide +kernel
theorem dX0_netOfAll_27 : decode cX0_netOfAll 27 = .ok (.aaload, 1) := by decide +kernel
theorem dX0_netOfAll_28 : decode cX0_netOfAll 28 = .ok (.aload_n 0, 1) := by decide +kernel
theorem dX0_netOfAll_29 : decode cX0_netOfAll 29 = .ok (.getfield 21, 3) := by decide +kernel
theorem dX0_netOfAll_32 : decode cX0_netOfAll 32 = .ok (.invokevirtual 92, 3) := by decide +kernel
theorem dX0_netOfAll_35 : decode cX0_netOfAll 35 = .ok (.lsub, 1) := by decide +kernel
theorem dX0_netOfAll_36 : decode cX0_netOfAll 36 = .ok (.ladd, 1) := by decide +kernel
theorem dX0_netOfAll_37 : decode cX0_netOfAll 37 = .ok (.lstore_n 1, 1) := by decide +kernel
theorem dX0_netOfAll_38 : decode cX0_netOfAll 38 = .ok (.iinc 3 1, 3) := by decide +kernel
theorem dX0_netOfAll_41 : decode cX0_netOfAll 41 = .ok (.goto (-37), 3) := by decide +kernel
theorem dX0_netOfAll_44 : decode cX0_netOfAll 44 = .ok (.lload_n 1, 1) := by decide +kernel
theorem dX0_netOfAll_45 : decode cX0_netOfAll 45 = .ok (.lreturn, 1) := by decide +kernel
theorem dX0_limitOfGate_0 : decode cX0_limitOfGate 0 = .ok (.aload_n 0, 1) := by decide +kernel
theorem dX0_limitOfGate_1 : decode cX0_limitOfGate 1 = .ok (.invokevirtual 96, 3) := by decide +kernel
theorem dX0_limitOfGate_4 : decode cX0_limitOfGate 4 = .ok (.aload_n 0, 1) := by decide +kernel
theorem dX0_limitOfGate_5 : decode cX0_limitOfGate 5 = .ok (.getfield 24, 3) := by decide +kernel
theorem dX0_limitOfGate_8 : decode cX0_limitOfGate 8 = .ok (.i2l, 1) := by decide +kernel
theorem dX0_limitOfGate_9 : decode cX0_limitOfGate 9 = .ok (.lmul, 1) := by decide +kernel
theorem dX0_limitOfGate_10 : decode cX0_limitOfGate 10 = .ok (.ldc2_w 100, 3) := by decide +kernel
theorem dX0_limitOfGate_13 : decode cX0_limitOfGate 13 = .ok (.ldiv, 1) := by decide +kernel
theorem dX0_limitOfGate_14 : decode cX0_limitOfGate 14 = .ok (.lreturn, 1) := by decide +kernel
theorem dX0_fallOfPay_0 : decode cX0_fallOfPay 0 = .ok (.lconst 0, 1) := by decide +kernel
theorem dX0_fallOfPay_1 : decode cX0_fallOfPay 1 = .ok (.lstore_n 2, 1) := by decide +kernel
theorem dX0_fallOfPay_2 : decode cX0_fallOfPay 2 = .ok (.iconst 0, 1) := by decide +kernel
theorem dX0_fallOfPay_3 : decode cX0_fallOfPay 3 = .ok (.istore 4, 2) := by decide +kernel
theorem dX0_fallOfPay_5 : decode cX0_fallOfPay 5 = .ok (.iload 4, 2) := by decide +kernel
theorem dX0_fallOfPay_7 : decode cX0_fallOfPay 7 = .ok (.aload_n 0, 1) := by decide +kernel
theorem dX0_fallOfPay_8 : decode cX0_fallOfPay 8 = .ok (.getfield 36, 3) := by decide +kernel
theorem dX0_fallOfPay_11 : decode cX0_fallOfPay 11 = .ok (.if_icmp .ge 68, 3) := by decide +kernel
theorem dX0_fallOfPay_14 : decode cX0_fallOfPay 14 = .ok (.aload_n 0, 1) := by decide +kernel
theorem dX0_fallOfPay_15 : decode cX0_fallOfPay 15 = .ok (.getfield 54, 3) := by decide +kernel
theorem dX0_fallOfPay_18 : decode cX0_fallOfPay 18 = .ok (.iload 4, 2) := by decide +kernel
theorem dX0_fallOfPay_20 : decode cX0_fallOfPay 20 = .ok (.aaload, 1) := by decide +kernel
theorem dX0_fallOfPay_21 : decode cX0_fallOfPay 21 = .ok (.getfield 77, 3) := by decide +kernel
theorem dX0_fallOfPay_24 : decode cX0_fallOfPay 24 = .ok (.iload_n 1, 1) := by decide +kernel
theorem dX0_fallOfPay_25 : decode cX0_fallOfPay 25 = .ok (.if_icmp .ne 48, 3) := by decide +kernel
theorem dX0_fallOfPay_28 : decode cX0_fallOfPay 28 = .ok (.aload_n 0, 1) := by decide +kernel
theorem dX0_fallOfPay_29 : decode cX0_fallOfPay 29 = .ok (.aload_n 0, 1) := by decide +kernel
theorem dX0_fallOfPay_30 : decode cX0_fallOfPay 30 = .ok (.getfield 54, 3) := by decide +kernel
theorem dX0_fallOfPay_33 : decode cX0_fallOfPay 33 = .ok (.iload 4, 2) := by decide +kernel
theorem dX0_fallOfPay_35 : decode cX0_fallOfPay 35 = .ok (.aaload, 1) := by decide +kernel
theorem dX0_fallOfPay_36 : decode cX0_fallOfPay 36 = .ok (.invokevirtual 102, 3) := by decide +kernel
theorem dX0_fallOfPay_39 : decode cX0_fallOfPay 39 = .ok (.ifCond .eq 34, 3) := by decide +kernel
theorem dX0_fallOfPay_42 : decode cX0_fallOfPay 42 = .ok (.lload_n 2, 1) := by decide +kernel
theorem dX0_fallOfPay_43 : decode cX0_fallOfPay 43 = .ok (.ldc2_w 106, 3) := by decide +kernel
theorem dX0_fallOfPay_46 : decode cX0_fallOfPay 46 = .ok (.aload_n 0, 1) := by decide +kernel
theorem dX0_fallOfPay_47 : decode cX0_fallOfPay 47 = .ok (.getfield 54, 3) := by decide +kernel
theorem dX0_fallOfPay_50 : decode cX0_fallOfPay 50 = .ok (.iload 4, 2) := by decide +kernel
theorem dX0_fallOfPay_52 : decode cX0_fallOfPay 52 = .ok (.aaload, 1) := by decide +kernel
theorem dX0_fallOfPay_53 : decode cX0_fallOfPay 53 = .ok (.getfield 80, 3) := by decide +kernel
theorem dX0_fallOfPay_56 : decode cX0_fallOfPay 56 = .ok (.aload_n 0, 1) := by decide +kernel
theorem dX0_fallOfPay_57 : decode cX0_fallOfPay 57 = .ok (.getfield 21, 3) := by decide +kernel
theorem dX0_fallOfPay_60 : decode cX0_fallOfPay 60 = .ok (.i2l, 1) := by decide +kernel
theorem dX0_fallOfPay_61 : decode cX0_fallOfPay 61 = .ok (.lmul, 1) := by decide +kernel
theorem dX0_fallOfPay_62 : decode cX0_fallOfPay 62 = .ok (.ldc2_w 100, 3) := by decide +kernel
theorem dX0_fallOfPay_65 : decode cX0_fallOfPay 65 = .ok (.ldiv, 1) := by decide +kernel
theorem dX0_fallOfPay_66 : decode cX0_fallOfPay 66 = .ok (.ldc2_w 108, 3) := by decide +kernel
theorem dX0_fallOfPay_69 : decode cX0_fallOfPay 69 = .ok (.ldiv, 1) := by decide +kernel
theorem dX0_fallOfPay_70 : decode cX0_fallOfPay 70 = .ok (.ladd, 1) := by decide +kernel
theorem dX0_fallOfPay_71 : decode cX0_fallOfPay 71 = .ok (.ladd, 1) := by decide +kernel
theorem dX0_fallOfPay_72 : decode cX0_fallOfPay 72 = .ok (.lstore_n 2, 1) := by decide +kernel
theorem dX0_fallOfPay_73 : decode cX0_fallOfPay 73 = .ok (.iinc 4 1, 3) := by decide +kernel
theorem dX0_fallOfPay_76 : decode cX0_fallOfPay 76 = .ok (.goto (-71), 3) := by decide +kernel
theorem dX0_fallOfPay_79 : decode cX0_fallOfPay 79 = .ok (.lload_n 2, 1) := by decide +kernel
theorem dX0_fallOfPay_80 : decode cX0_fallOfPay 80 = .ok (.lreturn, 1) := by decide +kernel
theorem dX0_canBeDue_0 : decode cX0_canBeDue 0 = .ok (.aload_n 0, 1) := by decide +kernel
theorem dX0_canBeDue_1 : decode cX0_canBeDue 1 = .ok (.aload_n 1, 1) := by decide +kernel
theorem dX0_canBeDue_2 : decode cX0_canBeDue 2 = .ok (.getfield 84, 3) := by decide +kernel
theorem dX0_canBeDue_5 : decode cX0_canBeDue 5 = .ok (.invokevirtual 110, 3) := by decide +kernel
theorem dX0_canBeDue_8 : decode cX0_canBeDue 8 = .ok (.istore_n 2, 1) := by decide +kernel
theorem dX0_canBeDue_9 : decode cX0_canBeDue 9 = .ok (.aload_n 0, 1) := by decide +kernel
theorem dX0_canBeDue_10 : decode cX0_canBeDue 10 = .ok (.getfield 15, 3) := by decide +kernel
theorem dX0_canBeDue_13 : decode cX0_canBeDue 13 = .ok (.iconst 1, 1) := by decide +kernel
theorem dX0_canBeDue_14 : decode cX0_canBeDue 14 = .ok (.if_icmp .ne 29, 3) := by decide +kernel
theorem dX0_canBeDue_17 : decode cX0_canBeDue 17 = .ok (.iload_n 2, 1) := by decide +kernel
theorem dX0_canBeDue_18 : decode cX0_canBeDue 18 = .ok (.iconst (-1), 1) := by decide +kernel
theorem dX0_canBeDue_19 : decode cX0_canBeDue 19 = .ok (.if_icmp .eq 24, 3) := by decide +kernel
theorem dX0_canBeDue_22 : decode cX0_canBeDue 22 = .ok (.aload_n 1, 1) := by decide +kernel
theorem dX0_canBeDue_23 : decode cX0_canBeDue 23 = .ok (.getfield 114, 3) := by decide +kernel
theorem dX0_canBeDue_26 : decode cX0_canBeDue 26 = .ok (.aload_n 0, 1) := by decide +kernel
theorem dX0_canBeDue_27 : decode cX0_canBeDue 27 = .ok (.getfield 48, 3) := by decide +kernel
theorem dX0_canBeDue_30 : decode cX0_canBeDue 30 = .ok (.iload_n 2, 1) := by decide +kernel
theorem dX0_canBeDue_31 : decode cX0_canBeDue 31 = .ok (.aaload, 1) := by decide +kernel
theorem dX0_canBeDue_32 : decode cX0_canBeDue 32 = .ok (.getfield 117, 3) := by decide +kernel
theorem dX0_canBeDue_35 : decode cX0_canBeDue 35 = .ok (.lcmp, 1) := by decide +kernel
theorem dX0_canBeDue_36 : decode cX0_canBeDue 36 = .ok (.ifCond .ge 7, 3) := by decide +kernel
theorem dX0_canBeDue_39 : decode cX0_canBeDue 39 = .ok (.iconst 1, 1) := by decide +kernel
theorem dX0_canBeDue_40 : decode cX0_canBeDue 40 = .ok (.goto 4, 3) := by decide +kernel
theorem dX0_canBeDue_43 : decode cX0_canBeDue 43 = .ok (.iconst 0, 1) := by decide +kernel
theorem dX0_canBeDue_44 : decode cX0_canBeDue 44 = .ok (.ireturn, 1) := by decide +kernel
theorem dX0_beginSeries_0 : decode cX0_beginSeries 0 = .ok (.aload_n 0, 1) := by decide +kernel
theorem dX0_beginSeries_1 : decode cX0_beginSeries 1 = .ok (.getfield 33, 3) := by decide +kernel
theorem dX0_beginSeries_4 : decode cX0_beginSeries 4 = .ok (.iconst 5, 1) := by decide +kernel
theorem dX0_beginSeries_5 : decode cX0_beginSeries 5 = .ok (.invokestatic 120, 3) := by decide +kernel
theorem dX0_beginSeries_8 : decode cX0_beginSeries 8 = .ok (.istore_n 1, 1) := by decide +kernel
theorem dX0_beginSeries_9 : decode cX0_beginSeries 9 = .ok (.aload_n 0, 1) := by decide +kernel
theorem dX0_beginSeries_10 : decode cX0_beginSeries 10 = .ok (.getfield 48, 3) := by decide +kernel
theorem dX0_beginSeries_13 : decode cX0_beginSeries 13 = .ok (.iload_n 1, 1) := by decide +kernel
theorem dX0_beginSeries_14 : decode cX0_beginSeries 14 = .ok (.aaload, 1) := by decide +kernel
theorem dX0_beginSeries_15 : decode cX0_beginSeries 15 = .ok (.aload_n 0, 1) := by decide +kernel
theorem dX0_beginSeries_16 : decode cX0_beginSeries 16 = .ok (.getfield 30, 3) := by decide +kernel
theorem dX0_beginSeries_19 : decode cX0_beginSeries 19 = .ok (.aload_n 0, 1) := by decide +kernel
theorem dX0_beginSeries_20 : decode cX0_beginSeries 20 = .ok (.getfield 27, 3) := by decide +kernel
theorem dX0_beginSeries_23 : decode cX0_beginSeries 23 = .ok (.invokevirtual 126, 3) := by decide +kernel
theorem dX0_beginSeries_26 : decode cX0_beginSeries 26 = .ok (.aload_n 0, 1) := by decide +kernel
theorem dX0_beginSeries_27 : decode cX0_beginSeries 27 = .ok (.iload_n 1, 1) := by decide +kernel
theorem dX0_beginSeries_28 : decode cX0_beginSeries 28 = .ok (.iconst 1, 1) := by decide +kernel
theorem dX0_beginSeries_29 : decode cX0_beginSeries 29 = .ok (.iadd, 1) := by decide +kernel
theorem dX0_beginSeries_30 : decode cX0_beginSeries 30 = .ok (.putfield 33, 3) := by decide +kernel
theorem dX0_beginSeries_33 : decode cX0_beginSeries 33 = .ok (.aload_n 0, 1) := by decide +kernel
theorem dX0_beginSeries_34 : decode cX0_beginSeries 34 = .ok (.dup, 1) := by decide +kernel
theorem dX0_beginSeries_35 : decode cX0_beginSeries 35 = .ok (.getfield 30, 3) := by decide +kernel
theorem dX0_beginSeries_38 : decode cX0_beginSeries 38 = .ok (.iconst 1, 1) := by decide +kernel
theorem dX0_beginSeries_39 : decode cX0_beginSeries 39 = .ok (.iadd, 1) := by decide +kernel
theorem dX0_beginSeries_40 : decode cX0_beginSeries 40 = .ok (.putfield 30, 3) := by decide +kernel
theorem dX0_beginSeries_43 : decode cX0_beginSeries 43 = .ok (.aload_n 0, 1) := by decide +kernel
theorem dX0_beginSeries_44 : decode cX0_beginSeries 44 = .ok (.getfield 48, 3) := by decide +kernel
theorem dX0_beginSeries_47 : decode cX0_beginSeries 47 = .ok (.iload_n 1, 1) := by decide +kernel
theorem dX0_beginSeries_48 : decode cX0_beginSeries 48 = .ok (.aaload, 1) := by decide +kernel
theorem dX0_beginSeries_49 : decode cX0_beginSeries 49 = .ok (.areturn, 1) := by decide +kernel
theorem dX0_addLot_0 : decode cX0_addLot 0 = .ok (.aload_n 0, 1) := by decide +kernel
theorem dX0_addLot_1 : decode cX0_addLot 1 = .ok (.getfield 36, 3) := by decide +kernel
theorem dX0_addLot_4 : decode cX0_addLot 4 = .ok (.bipush 39, 2) := by decide +kernel
theorem dX0_addLot_6 : decode cX0_addLot 6 = .ok (.invokestatic 120, 3) := by decide +kernel
theorem dX0_addLot_9 : decode cX0_addLot 9 = .ok (.istore 9, 2) := by decide +kernel
theorem dX0_addLot_11 : decode cX0_addLot 11 = .ok (.aload_n 0, 1) := by decide +kernel
theorem dX0_addLot_12 : decode cX0_addLot 12 = .ok (.getfield 54, 3) := by decide +kernel
theorem dX0_addLot_15 : decode cX0_addLot 15 = .ok (.iload 9, 2) := by decide +kernel
theorem dX0_addLot_17 : decode cX0_addLot 17 = .ok (.aaload, 1) := by decide +kernel
theorem dX0_addLot_18 : decode cX0_addLot 18 = .ok (.astore 10, 2) := by decide +kernel
theorem dX0_addLot_20 : decode cX0_addLot 20 = .ok (.aload 10, 2) := by decide +kernel
theorem dX0_addLot_22 : decode cX0_addLot 22 = .ok (.iload_n 1, 1) := by decide +kernel
theorem dX0_addLot_23 : decode cX0_addLot 23 = .ok (.putfield 77, 3) := by decide +kernel
theorem dX0_addLot_26 : decode cX0_addLot 26 = .ok (.aload 10, 2) := by decide +kernel
theorem dX0_addLot_28 : decode cX0_addLot 28 = .ok (.iload_n 2, 1) := by decide +kernel
theorem dX0_addLot_29 : decode cX0_addLot 29 = .ok (.putfield 84, 3) := by decide +kernel
theorem dX0_addLot_32 : decode cX0_addLot 32 = .ok (.aload 10, 2) := by decide +kernel
theorem dX0_addLot_34 : decode cX0_addLot 34 = .ok (.lload_n 3, 1) := by decide +kernel
theorem dX0_addLot_35 : decode cX0_addLot 35 = .ok (.putfield 80, 3) := by decide +kernel
theorem dX0_addLot_38 : decode cX0_addLot 38 = .ok (.aload 10, 2) := by decide +kernel
theorem dX0_addLot_40 : decode cX0_addLot 40 = .ok (.lload 5, 2) := by decide +kernel
theorem dX0_addLot_42 : decode cX0_addLot 42 = .ok (.putfield 114, 3) := by decide +kernel
theorem dX0_addLot_45 : decode cX0_addLot 45 = .ok (.aload 10, 2) := by decide +kernel
theorem dX0_addLot_47 : decode cX0_addLot 47 = .ok (.lload 7, 2) := by decide +kernel
theorem dX0_addLot_49 : decode cX0_addLot 49 = .ok (.putfield 130, 3) := by decide +kernel
theorem dX0_addLot_52 : decode cX0_addLot 52 = .ok (.aload 10, 2) := by decide +kernel
theorem dX0_addLot_54 : decode cX0_addLot 54 = .ok (.aload_n 0, 1) := by decide +kernel
theorem dX0_addLot_55 : decode cX0_addLot 55 = .ok (.getfield 27, 3) := by decide +kernel
theorem dX0_addLot_58 : decode cX0_addLot 58 = .ok (.putfield 133, 3) := by decide +kernel
theorem dX0_addLot_61 : decode cX0_addLot 61 = .ok (.aload_n 0, 1) := by decide +kernel
theorem dX0_addLot_62 : decode cX0_addLot 62 = .ok (.iload 9, 2) := by decide +kernel
theorem dX0_addLot_64 : decode cX0_addLot 64 = .ok (.iconst 1, 1) := by decide +kernel
theorem dX0_addLot_65 : decode cX0_addLot 65 = .ok (.iadd, 1) := by decide +kernel
theorem dX0_addLot_66 : decode cX0_addLot 66 = .ok (.putfield 36, 3) := by decide +kernel
theorem dX0_addLot_69 : decode cX0_addLot 69 = .ok (.aload 10, 2) := by decide +kernel
theorem dX0_addLot_71 : decode cX0_addLot 71 = .ok (.areturn, 1) := by decide +kernel
theorem dX0_dropEmptyLots_0 : decode cX0_dropEmptyLots 0 = .ok (.iconst 0, 1) := by decide +kernel
theorem dX0_dropEmptyLots_1 : decode cX0_dropEmptyLots 1 = .ok (.istore_n 1, 1) := by decide +kernel
theorem dX0_dropEmptyLots_2 : decode cX0_dropEmptyLots 2 = .ok (.iconst 0, 1) := by decide +kernel
theorem dX0_dropEmptyLots_3 : decode cX0_dropEmptyLots 3 = .ok (.istore_n 2, 1) := by decide +kernel
theorem dX0_dropEmptyLots_4 : decode cX0_dropEmptyLots 4 = .ok (.iload_n 2, 1) := by decide +kernel
theorem dX0_dropEmptyLots_5 : decode cX0_dropEmptyLots 5 = .ok (.aload_n 0, 1) := by decide +kernel
theorem dX0_dropEmptyLots_6 : decode cX0_dropEmptyLots 6 = .ok (.getfield 36, 3) := by decide +kernel
theorem dX0_dropEmptyLots_9 : decode cX0_dropEmptyLots 9 = .ok (.if_icmp .ge 47, 3) := by decide +kernel
theorem dX0_dropEmptyLots_12 : decode cX0_dropEmptyLots 12 = .ok (.aload_n 0, 1) := by decide +kernel
theorem dX0_dropEmptyLots_13 : decode cX0_dropEmptyLots 13 = .ok (.getfield 54, 3) := by decide +kernel
theorem dX0_dropEmptyLots_16 : decode cX0_dropEmptyLots 16 = .ok (.iload_n 2, 1) := by decide +kernel
theorem dX0_dropEmptyLots_17 : decode cX0_dropEmptyLots 17 = .ok (.aaload, 1) := by decide +kernel
theorem dX0_dropEmptyLots_18 : decode cX0_dropEmptyLots 18 = .ok (.astore_n 3, 1) := by decide +kernel
theorem dX0_dropEmptyLots_19 : decode cX0_dropEmptyLots 19 = .ok (.aload_n 3, 1) := by decide +kernel
theorem dX0_dropEmptyLots_20 : decode cX0_dropEmptyLots 20 = .ok (.getfield 80, 3) := by decide +kernel
theorem dX0_dropEmptyLots_23 : decode cX0_dropEmptyLots 23 = .ok (.lconst 0, 1) := by decide +kernel
theorem dX0_dropEmptyLots_24 : decode cX0_dropEmptyLots 24 = .ok (.lcmp, 1) := by decide +kernel
theorem dX0_dropEmptyLots_25 : decode cX0_dropEmptyLots 25 = .ok (.ifCond .le 25, 3) := by decide +kernel
theorem dX0_dropEmptyLots_28 : decode cX0_dropEmptyLots 28 = .ok (.aload_n 0, 1) := by decide +kernel
theorem dX0_dropEmptyLots_29 : decode cX0_dropEmptyLots 29 = .ok (.getfield 54, 3) := by decide +kernel
theorem dX0_dropEmptyLots_32 : decode cX0_dropEmptyLots 32 = .ok (.iload_n 2, 1) := by decide +kernel
theorem dX0_dropEmptyLots_33 : decode cX0_dropEmptyLots 33 = .ok (.aload_n 0, 1) := by decide +kernel
theorem dX0_dropEmptyLots_34 : decode cX0_dropEmptyLots 34 = .ok (.getfield 54, 3) := by decide +kernel
theorem dX0_dropEmptyLots_37 : decode cX0_dropEmptyLots 37 = .ok (.iload_n 1, 1) := by decide +kernel
theorem dX0_dropEmptyLots_38 : decode cX0_dropEmptyLots 38 = .ok (.aaload, 1) := by decide +kernel
theorem dX0_dropEmptyLots_39 : decode cX0_dropEmptyLots 39 = .ok (.aastore, 1) := by decide +kernel
theorem dX0_dropEmptyLots_40 : decode cX0_dropEmptyLots 40 = .ok (.aload_n 0, 1) := by decide +kernel
theorem dX0_dropEmptyLots_41 : decode cX0_dropEmptyLots 41 = .ok (.getfield 54, 3) := by decide +kernel
theorem dX0_dropEmptyLots_44 : decode cX0_dropEmptyLots 44 = .ok (.iload_n 1, 1) := by decide +kernel
theorem dX0_dropEmptyLots_45 : decode cX0_dropEmptyLots 45 = .ok (.aload_n 3, 1) := by decide +kernel
theorem dX0_dropEmptyLots_46 : decode cX0_dropEmptyLots 46 = .ok (.aastore, 1) := by decide +kernel
theorem dX0_dropEmptyLots_47 : decode cX0_dropEmptyLots 47 = .ok (.iinc 1 1, 3) := by decide +kernel
theorem dX0_dropEmptyLots_50 : decode cX0_dropEmptyLots 50 = .ok (.iinc 2 1, 3) := by decide +kernel
theorem dX0_dropEmptyLots_53 : decode cX0_dropEmptyLots 53 = .ok (.goto (-49), 3) := by decide +kernel
theorem dX0_dropEmptyLots_56 : decode cX0_dropEmptyLots 56 = .ok (.aload_n 0, 1) := by decide +kernel
theorem dX0_dropEmptyLots_57 : decode cX0_dropEmptyLots 57 = .ok (.iload_n 1, 1) := by decide +kernel
theorem dX0_dropEmptyLots_58 : decode cX0_dropEmptyLots 58 = .ok (.putfield 36, 3) := by decide +kernel
theorem dX0_dropEmptyLots_61 : decode cX0_dropEmptyLots 61 = .ok (.return_, 1) := by decide +kernel
theorem dX0_closeEmptySeries_0 : decode cX0_closeEmptySeries 0 = .ok (.iconst 0, 1) := by decide +kernel
theorem dX0_closeEmptySeries_1 : decode cX0_closeEmptySeries 1 = .ok (.istore_n 1, 1) := by decide +kernel
theorem dX0_closeEmptySeries_2 : decode cX0_closeEmptySeries 2 = .ok (.iconst 0, 1) := by decide +kernel
theorem dX0_closeEmptySeries_3 : decode cX0_closeEmptySeries 3 = .ok (.istore_n 2, 1) := by decide +kernel
theorem dX0_closeEmptySeries_4 : decode cX0_closeEmptySeries 4 = .ok (.iload_n 2, 1) := by decide +kernel
theorem dX0_closeEmptySeries_5 : decode cX0_closeEmptySeries 5 = .ok (.aload_n 0, 1) := by decide +kernel
theorem dX0_closeEmptySeries_6 : decode cX0_closeEmptySeries 6 = .ok (.getfield 33, 3) := by decide +kernel
theorem dX0_closeEmptySeries_9 : decode cX0_closeEmptySeries 9 = .ok (.if_icmp .ge 63, 3) := by decide +kernel
theorem dX0_closeEmptySeries_12 : decode cX0_closeEmptySeries 12 = .ok (.aload_n 0, 1) := by decide +kernel
theorem dX0_closeEmptySeries_13 : decode cX0_closeEmptySeries 13 = .ok (.getfield 48, 3) := by decide +kernel
theorem dX0_closeEmptySeries_16 : decode cX0_closeEmptySeries 16 = .ok (.iload_n 2, 1) := by decide +kernel
theorem dX0_closeEmptySeries_17 : decode cX0_closeEmptySeries 17 = .ok (.aaload, 1) := by decide +kernel
theorem dX0_closeEmptySeries_18 : decode cX0_closeEmptySeries 18 = .ok (.astore_n 3, 1) := by decide +kernel
theorem dX0_closeEmptySeries_19 : decode cX0_closeEmptySeries 19 = .ok (.aload_n 3, 1) := by decide +kernel
theorem dX0_closeEmptySeries_20 : decode cX0_closeEmptySeries 20 = .ok (.getfield 134, 3) := by decide +kernel
theorem dX0_closeEmptySeries_23 : decode cX0_closeEmptySeries 23 = .ok (.lconst 0, 1) := by decide +kernel
theorem dX0_closeEmptySeries_24 : decode cX0_closeEmptySeries 24 = .ok (.lcmp, 1) := by decide +kernel
theorem dX0_closeEmptySeries_25 : decode cX0_closeEmptySeries 25 = .ok (.ifCond .le 28, 3) := by decide +kernel
theorem dX0_closeEmptySeries_28 : decode cX0_closeEmptySeries 28 = .ok (.aload_n 0, 1) := by decide +kernel
theorem dX0_closeEmptySeries_29 : decode cX0_closeEmptySeries 29 = .ok (.getfield 48, 3) := by decide +kernel
theorem dX0_closeEmptySeries_32 : decode cX0_closeEmptySeries 32 = .ok (.iload_n 2, 1) := by decide +kernel
theorem dX0_closeEmptySeries_33 : decode cX0_closeEmptySeries 33 = .ok (.aload_n 0, 1) := by decide +kernel
theorem dX0_closeEmptySeries_34 : decode cX0_closeEmptySeries 34 = .ok (.getfield 48, 3) := by decide +kernel
theorem dX0_closeEmptySeries_37 : decode cX0_closeEmptySeries 37 = .ok (.iload_n 1, 1) := by decide +kernel
theorem dX0_closeEmptySeries_38 : decode cX0_closeEmptySeries 38 = .ok (.aaload, 1) := by decide +kernel
theorem dX0_closeEmptySeries_39 : decode cX0_closeEmptySeries 39 = .ok (.aastore, 1) := by decide +kernel
theorem dX0_closeEmptySeries_40 : decode cX0_closeEmptySeries 40 = .ok (.aload_n 0, 1) := by decide +kernel
theorem dX0_closeEmptySeries_41 : decode cX0_closeEmptySeries 41 = .ok (.getfield 48, 3) := by decide +kernel
theorem dX0_closeEmptySeries_44 : decode cX0_closeEmptySeries 44 = .ok (.iload_n 1, 1) := by decide +kernel
theorem dX0_closeEmptySeries_45 : decode cX0_closeEmptySeries 45 = .ok (.aload_n 3, 1) := by decide +kernel
theorem dX0_closeEmptySeries_46 : decode cX0_closeEmptySeries 46 = .ok (.aastore, 1) := by decide +kernel
theorem dX0_closeEmptySeries_47 : decode cX0_closeEmptySeries 47 = .ok (.iinc 1 1, 3) := by decide +kernel
theorem dX0_closeEmptySeries_50 : decode cX0_closeEmptySeries 50 = .ok (.goto 16, 3) := by decide +kernel
theorem dX0_closeEmptySeries_53 : decode cX0_closeEmptySeries 53 = .ok (.aload_n 0, 1) := by decide +kernel
theorem dX0_closeEmptySeries_54 : decode cX0_closeEmptySeries 54 = .ok (.getfield 42, 3) := by decide +kernel
theorem dX0_closeEmptySeries_57 : decode cX0_closeEmptySeries 57 = .ok (.iconst 1, 1) := by decide +kernel
theorem dX0_closeEmptySeries_58 : decode cX0_closeEmptySeries 58 = .ok (.dup2, 1) := by decide +kernel
theorem dX0_closeEmptySeries_59 : decode cX0_closeEmptySeries 59 = .ok (.laload, 1) := by decide +kernel
theorem dX0_closeEmptySeries_60 : decode cX0_closeEmptySeries 60 = .ok (.aload_n 3, 1) := by decide +kernel
theorem dX0_closeEmptySeries_61 : decode cX0_closeEmptySeries 61 = .ok (.getfield 89, 3) := by decide +kernel
theorem dX0_closeEmptySeries_64 : decode cX0_closeEmptySeries 64 = .ok (.ladd, 1) := by decide +kernel
theorem dX0_closeEmptySeries_65 : decode cX0_closeEmptySeries 65 = .ok (.lastore, 1) := by decide +kernel
theorem dX0_closeEmptySeries_66 : decode cX0_closeEmptySeries 66 = .ok (.iinc 2 1, 3) := by decide +kernel
theorem dX0_closeEmptySeries_69 : decode cX0_closeEmptySeries 69 = .ok (.goto (-65), 3) := by decide +kernel
theorem dX0_closeEmptySeries_72 : decode cX0_closeEmptySeries 72 = .ok (.aload_n 0, 1) := by decide +kernel
theorem dX0_closeEmptySeries_73 : decode cX0_closeEmptySeries 73 = .ok (.iload_n 1, 1) := by decide +kernel
theorem dX0_closeEmptySeries_74 : decode cX0_closeEmptySeries 74 = .ok (.putfield 33, 3) := by decide +kernel
theorem dX0_closeEmptySeries_77 : decode cX0_closeEmptySeries 77 = .ok (.return_, 1) := by decide +kernel
theorem dX0_transferFault_0 : decode cX0_transferFault 0 = .ok (.aload_n 0, 1) := by decide +kernel
theorem dX0_transferFault_1 : decode cX0_transferFault 1 = .ok (.iload_n 1, 1) := by decide +kernel
theorem dX0_transferFault_2 : decode cX0_transferFault 2 = .ok (.invokevirtual 135, 3) := by decide +kernel
theorem dX0_transferFault_5 : decode cX0_transferFault 5 = .ok (.ifCond .eq 11, 3) := by decide +kernel
theorem dX0_transferFault_8 : decode cX0_transferFault 8 = .ok (.aload_n 0, 1) := by decide +kernel
theorem dX0_transferFault_9 : decode cX0_transferFault 9 = .ok (.iload_n 2, 1) := by decide +kernel
theorem dX0_transferFault_10 : decode cX0_transferFault 10 = .ok (.invokevirtual 135, 3) := by decide +kernel
theorem dX0_transferFault_13 : decode cX0_transferFault 13 = .ok (.ifCond .ne 5, 3) := by decide +kernel
theorem dX0_transferFault_16 : decode cX0_transferFault 16 = .ok (.iconst 1, 1) := by decide +kernel
theorem dX0_transferFault_17 : decode cX0_transferFault 17 = .ok (.ireturn, 1) := by decide +kernel
theorem dX0_transferFault_18 : decode cX0_transferFault 18 = .ok (.iload_n 1, 1) := by decide +kernel
theorem dX0_transferFault_19 : decode cX0_transferFault 19 = .ok (.iload_n 2, 1) := by decide +kernel
theorem dX0_transferFault_20 : decode cX0_transferFault 20 = .ok (.if_icmp .eq 14, 3) := by decide +kernel
theorem dX0_transferFault_23 : decode cX0_transferFault 23 = .ok (.iload_n 3, 1) := by decide +kernel
theorem dX0_transferFault_24 : decode cX0_transferFault 24 = .ok (.iconst 1, 1) := by decide +kernel
theorem dX0_transferFault_25 : decode cX0_transferFault 25 = .ok (.if_icmp .lt 9, 3) := by decide +kernel
theorem dX0_transferFault_28 : decode cX0_transferFault 28 = .ok (.iload_n 3, 1) := by decide +kernel
theorem dX0_transferFault_29 : decode cX0_transferFault 29 = .ok (.ldc 139, 2) := by decide +kernel
theorem dX0_transferFault_31 : decode cX0_transferFault 31 = .ok (.if_icmp .le 5, 3) := by decide +kernel
theorem dX0_transferFault_34 : decode cX0_transferFault 34 = .ok (.iconst 2, 1) := by decide +kernel
theorem dX0_transferFault_35 : decode cX0_transferFault 35 = .ok (.ireturn, 1) := by decide +kernel
theorem dX0_transferFault_36 : decode cX0_transferFault 36 = .ok (.aload_n 0, 1) := by decide +kernel
theorem dX0_transferFault_37 : decode cX0_transferFault 37 = .ok (.iload_n 1, 1) := by decide +kernel
theorem dX0_transferFault_38 : decode cX0_transferFault 38 = .ok (.invokevirtual 140, 3) := by decide +kernel
theorem dX0_transferFault_41 : decode cX0_transferFault 41 = .ok (.iload_n 3, 1) := by decide +kernel
theorem dX0_transferFault_42 : decode cX0_transferFault 42 = .ok (.i2l, 1) := by decide +kernel
theorem dX0_transferFault_43 : decode cX0_transferFault 43 = .ok (.aload_n 0, 1) := by decide +kernel
theorem dX0_transferFault_44 : decode cX0_transferFault 44 = .ok (.iload_n 1, 1) := by decide +kernel
theorem dX0_transferFault_45 : decode cX0_transferFault 45 = .ok (.invokevirtual 143, 3) := by decide +kernel
theorem dX0_transferFault_48 : decode cX0_transferFault 48 = .ok (.ladd, 1) := by decide +kernel
theorem dX0_transferFault_49 : decode cX0_transferFault 49 = .ok (.lcmp, 1) := by decide +kernel
theorem dX0_transferFault_50 : decode cX0_transferFault 50 = .ok (.ifCond .ge 5, 3) := by decide +kernel
theorem dX0_transferFault_53 : decode cX0_transferFault 53 = .ok (.iconst 3, 1) := by decide +kernel
theorem dX0_transferFault_54 : decode cX0_transferFault 54 = .ok (.ireturn, 1) := by decide +kernel
theorem dX0_transferFault_55 : decode cX0_transferFault 55 = .ok (.aload_n 0, 1) := by decide +kernel
theorem dX0_transferFault_56 : decode cX0_transferFault 56 = .ok (.getfield 36, 3) := by decide +kernel
theorem dX0_transferFault_59 : decode cX0_transferFault 59 = .ok (.bipush 40, 2) := by decide +kernel
theorem dX0_transferFault_61 : decode cX0_transferFault 61 = .ok (.if_icmp .lt 17, 3) := by decide +kernel
theorem dX0_transferFault_64 : decode cX0_transferFault 64 = .ok (.aload_n 0, 1) := by decide +kernel
theorem dX0_transferFault_65 : decode cX0_transferFault 65 = .ok (.iload_n 1, 1) := by decide +kernel
theorem dX0_transferFault_66 : decode cX0_transferFault 66 = .ok (.iload_n 3, 1) := by decide +kernel
theorem dX0_transferFault_67 : decode cX0_transferFault 67 = .ok (.i2l, 1) := by decide +kernel
theorem dX0_transferFault_68 : decode cX0_transferFault 68 = .ok (.invokevirtual 146, 3) := by decide +kernel
theorem dX0_transferFault_71 : decode cX0_transferFault 71 = .ok (.ifCond .eq 7, 3) := by decide +kernel
theorem dX0_transferFault_74 : decode cX0_transferFault 74 = .ok (.iconst 3, 1) := by decide +kernel
theorem dX0_transferFault_75 : decode cX0_transferFault 75 = .ok (.goto 4, 3) := by decide +kernel
theorem dX0_transferFault_78 : decode cX0_transferFault 78 = .ok (.iconst 0, 1) := by decide +kernel
theorem dX0_transferFault_79 : decode cX0_transferFault 79 = .ok (.ireturn, 1) := by decide +kernel
theorem dX0_splitsLot_0 : decode cX0_splitsLot 0 = .ok (.lload_n 2, 1) := by decide +kernel
theorem dX0_splitsLot_1 : decode cX0_splitsLot 1 = .ok (.lstore 4, 2) := by decide +kernel
theorem dX0_splitsLot_3 : decode cX0_splitsLot 3 = .ok (.iconst 0, 1) := by decide +kernel
theorem dX0_splitsLot_4 : decode cX0_splitsLot 4 = .ok (.istore 6, 2) := by decide +kernel
theorem dX0_splitsLot_6 : decode cX0_splitsLot 6 = .ok (.iload 6, 2) := by decide +kernel
theorem dX0_splitsLot_8 : decode cX0_splitsLot 8 = .ok (.aload_n 0, 1) := by decide +kernel
theorem dX0_splitsLot_9 : decode cX0_splitsLot 9 = .ok (.getfield 36, 3) := by decide +kernel
theorem dX0_splitsLot_12 : decode cX0_splitsLot 12 = .ok (.if_icmp .ge 45, 3) := by decide +kernel
theorem dX0_splitsLot_15 : decode cX0_splitsLot 15 = .ok (.lload 4, 2) := by decide +kernel
theorem dX0_splitsLot_17 : decode cX0_splitsLot 17 = .ok (.lconst 0, 1) := by decide +kernel
theorem dX0_splitsLot_18 : decode cX0_splitsLot 18 = .ok (.lcmp, 1) := by decide +kernel
theorem dX0_splitsLot_19 : decode cX0_splitsLot 19 = .ok (.ifCond .le 38, 3) := by decide +kernel
theorem dX0_splitsLot_22 : decode cX0_splitsLot 22 = .ok (.aload_n 0, 1) := by decide +kernel
theorem dX0_splitsLot_23 : decode cX0_splitsLot 23 = .ok (.getfield 54, 3) := by decide +kernel
theorem dX0_splitsLot_26 : decode cX0_splitsLot 26 = .ok (.iload 6, 2) := by decide +kernel
theorem dX0_splitsLot_28 : decode cX0_splitsLot 28 = .ok (.aaload, 1) := by decide +kernel
theorem dX0_splitsLot_29 : decode cX0_splitsLot 29 = .ok (.getfield 77, 3) := by decide +kernel
theorem dX0_splitsLot_32 : decode cX0_splitsLot 32 = .ok (.iload_n 1, 1) := by decide +kernel
theorem dX0_splitsLot_33 : decode cX0_splitsLot 33 = .ok (.if_icmp .ne 18, 3) := by decide +kernel
theorem dX0_splitsLot_36 : decode cX0_splitsLot 36 = .ok (.lload 4, 2) := by decide +kernel
theorem dX0_splitsLot_38 : decode cX0_splitsLot 38 = .ok (.aload_n 0, 1) := by decide +kernel
theorem dX0_splitsLot_39 : decode cX0_splitsLot 39 = .ok (.getfield 54, 3) := by decide +kernel
theorem dX0_splitsLot_42 : decode cX0_splitsLot 42 = .ok (.iload 6, 2) := by decide +kernel
theorem dX0_splitsLot_44 : decode cX0_splitsLot 44 = .ok (.aaload, 1) := by decide +kernel
theorem dX0_splitsLot_45 : decode cX0_splitsLot 45 = .ok (.getfield 80, 3) := by decide +kernel
theorem dX0_splitsLot_48 : decode cX0_splitsLot 48 = .ok (.lsub, 1) := by decide +kernel
theorem dX0_splitsLot_49 : decode cX0_splitsLot 49 = .ok (.lstore 4, 2) := by decide +kernel
theorem dX0_splitsLot_51 : decode cX0_splitsLot 51 = .ok (.iinc 6 1, 3) := by decide +kernel
theorem dX0_splitsLot_54 : decode cX0_splitsLot 54 = .ok (.goto (-48), 3) := by decide +kernel
theorem dX0_splitsLot_57 : decode cX0_splitsLot 57 = .ok (.lload 4, 2) := by decide +kernel
theorem dX0_splitsLot_59 : decode cX0_splitsLot 59 = .ok (.lconst 0, 1) := by decide +kernel
theorem dX0_splitsLot_60 : decode cX0_splitsLot 60 = .ok (.lcmp, 1) := by decide +kernel
theorem dX0_splitsLot_61 : decode cX0_splitsLot 61 = .ok (.ifCond .ge 7, 3) := by decide +kernel
theorem dX0_splitsLot_64 : decode cX0_splitsLot 64 = .ok (.iconst 1, 1) := by decide +kernel
theorem dX0_splitsLot_65 : decode cX0_splitsLot 65 = .ok (.goto 4, 3) := by decide +kernel
theorem dX0_splitsLot_68 : decode cX0_splitsLot 68 = .ok (.iconst 0, 1) := by decide +kernel
theorem dX0_splitsLot_69 : decode cX0_splitsLot 69 = .ok (.ireturn, 1) := by decide +kernel
theorem dX0_moveUnits_0 : decode cX0_moveUnits 0 = .ok (.lload_n 3, 1) := by decide +kernel
theorem dX0_moveUnits_1 : decode cX0_moveUnits 1 = .ok (.lstore 5, 2) := by decide +kernel
theorem dX0_moveUnits_3 : decode cX0_moveUnits 3 = .ok (.aload_n 0, 1) := by decide +kernel
theorem dX0_moveUnits_4 : decode cX0_moveUnits 4 = .ok (.getfield 36, 3) := by decide +kernel
theorem dX0_moveUnits_7 : decode cX0_moveUnits 7 = .ok (.istore 7, 2) := by decide +kernel
theorem dX0_moveUnits_9 : decode cX0_moveUnits 9 = .ok (.iconst 0, 1) := by decide +kernel
theorem dX0_moveUnits_10 : decode cX0_moveUnits 10 = .ok (.istore 8, 2) := by decide +kernel
theorem dX0_moveUnits_12 : decode cX0_moveUnits 12 = .ok (.iload 8, 2) := by decide +kernel
theorem dX0_moveUnits_14 : decode cX0_moveUnits 14 = .ok (.iload 7, 2) := by decide +kernel
theorem dX0_moveUnits_16 : decode cX0_moveUnits 16 = .ok (.if_icmp .ge 82, 3) := by decide +kernel
theorem dX0_moveUnits_19 : decode cX0_moveUnits 19 = .ok (.lload 5, 2) := by decide +kernel
theorem dX0_moveUnits_21 : decode cX0_moveUnits 21 = .ok (.lconst 0, 1) := by decide +kernel
theorem dX0_moveUnits_22 : decode cX0_moveUnits 22 = .ok (.lcmp, 1) := by decide +kernel
theorem dX0_moveUnits_23 : decode cX0_moveUnits 23 = .ok (.ifCond .le 75, 3) := by decide +kernel
theorem dX0_moveUnits_26 : decode cX0_moveUnits 26 = .ok (.aload_n 0, 1) := by decide +kernel
theorem dX0_moveUnits_27 : decode cX0_moveUnits 27 = .ok (.getfield 54, 3) := by decide +kernel
theorem dX0_moveUnits_30 : decode cX0_moveUnits 30 = .ok (.iload 8, 2) := by decide +kernel
theorem dX0_moveUnits_32 : decode cX0_moveUnits 32 = .ok (.aaload, 1) := by decide +kernel
theorem dX0_moveUnits_33 : decode cX0_moveUnits 33 = .ok (.astore 9, 2) := by decide +kernel
theorem dX0_moveUnits_35 : decode cX0_moveUnits 35 = .ok (.aload 9, 2) := by decide +kernel
theorem dX0_moveUnits_37 : decode cX0_moveUnits 37 = .ok (.getfield 77, 3) := by decide +kernel
theorem dX0_moveUnits_40 : decode cX0_moveUnits 40 = .ok (.iload_n 1, 1) := by decide +kernel
theorem dX0_moveUnits_41 : decode cX0_moveUnits 41 = .ok (.if_icmp .ne 51, 3) := by decide +kernel
theorem dX0_moveUnits_44 : decode cX0_moveUnits 44 = .ok (.lload 5, 2) := by decide +kernel
theorem dX0_moveUnits_46 : decode cX0_moveUnits 46 = .ok (.aload 9, 2) := by decide +kernel
theorem dX0_moveUnits_48 : decode cX0_moveUnits 48 = .ok (.getfield 80, 3) := by decide +kernel
theorem dX0_moveUnits_51 : decode cX0_moveUnits 51 = .ok (.invokestatic 150, 3) := by decide +kernel
theorem dX0_moveUnits_54 : decode cX0_moveUnits 54 = .ok (.lstore 10, 2) := by decide +kernel
theorem dX0_moveUnits_56 : decode cX0_moveUnits 56 = .ok (.lload 5, 2) := by decide +kernel
theorem dX0_moveUnits_58 : decode cX0_moveUnits 58 = .ok (.lload 10, 2) := by decide +kernel
theorem dX0_moveUnits_60 : decode cX0_moveUnits 60 = .ok (.lsub, 1) := by decide +kernel
theorem dX0_moveUnits_61 : decode cX0_moveUnits 61 = .ok (.lstore 5, 2) := by decide +kernel
theorem dX0_moveUnits_63 : decode cX0_moveUnits 63 = .ok (.lload 10, 2) := by decide +kernel
theorem dX0_moveUnits_65 : decode cX0_moveUnits 65 = .ok (.aload 9, 2) := by decide +kernel
theorem dX0_moveUnits_67 : decode cX0_moveUnits 67 = .ok (.getfield 80, 3) := by decide +kernel
theorem dX0_moveUnits_70 : decode cX0_moveUnits 70 = .ok (.lcmp, 1) := by decide +kernel
theorem dX0_moveUnits_71 : decode cX0_moveUnits 71 = .ok (.ifCond .ne 12, 3) := by decide +kernel
theorem dX0_moveUnits_74 : decode cX0_moveUnits 74 = .ok (.aload 9, 2) := by decide +kernel
theorem dX0_moveUnits_76 : decode cX0_moveUnits 76 = .ok (.iload_n 2, 1) := by decide +kernel
theorem dX0_moveUnits_77 : decode cX0_moveUnits 77 = .ok (.putfield 77, 3) := by decide +kernel
theorem dX0_moveUnits_80 : decode cX0_moveUnits 80 = .ok (.goto 12, 3) := by decide +kernel
theorem dX0_moveUnits_83 : decode cX0_moveUnits 83 = .ok (.aload_n 0, 1) := by decide +kernel
theorem dX0_moveUnits_84 : decode cX0_moveUnits 84 = .ok (.aload 9, 2) := by decide +kernel
theorem dX0_moveUnits_86 : decode cX0_moveUnits 86 = .ok (.iload_n 2, 1) := by decide +kernel
theorem dX0_moveUnits_87 : decode cX0_moveUnits 87 = .ok (.lload 10, 2) := by decide +kernel
theorem dX0_moveUnits_89 : decode cX0_moveUnits 89 = .ok (.invokevirtual 153, 3) := by decide +kernel
theorem dX0_moveUnits_92 : decode cX0_moveUnits 92 = .ok (.iinc 8 1, 3) := by decide +kernel
theorem dX0_moveUnits_95 : decode cX0_moveUnits 95 = .ok (.goto (-83), 3) := by decide +kernel
theorem dX0_moveUnits_98 : decode cX0_moveUnits 98 = .ok (.return_, 1) := by decide +kernel
theorem dX0_splitLot_0 : decode cX0_splitLot 0 = .ok (.aload_n 1, 1) := by decide +kernel
theorem dX0_splitLot_1 : decode cX0_splitLot 1 = .ok (.getfield 80, 3) := by decide +kernel
theorem dX0_splitLot_4 : decode cX0_splitLot 4 = .ok (.lconst 0, 1) := by decide +kernel
theorem dX0_splitLot_5 : decode cX0_splitLot 5 = .ok (.lcmp, 1) := by decide +kernel
theorem dX0_splitLot_6 : decode cX0_splitLot 6 = .ok (.ifCond .gt 4, 3) := by decide +kernel
theorem dX0_splitLot_9 : decode cX0_splitLot 9 = .ok (.return_, 1) := by decide +kernel
theorem dX0_splitLot_10 : decode cX0_splitLot 10 = .ok (.aload_n 1, 1) := by decide +kernel
theorem dX0_splitLot_11 : decode cX0_splitLot 11 = .ok (.getfield 130, 3) := by decide +kernel
theorem dX0_splitLot_14 : decode cX0_splitLot 14 = .ok (.lload_n 3, 1) := by decide +kernel
theorem dX0_splitLot_15 : decode cX0_splitLot 15 = .ok (.lmul, 1) := by decide +kernel
theorem dX0_splitLot_16 : decode cX0_splitLot 16 = .ok (.aload_n 1, 1) := by decide +kernel
theorem dX0_splitLot_17 : decode cX0_splitLot 17 = .ok (.getfield 80, 3) := by decide +kernel
theorem dX0_splitLot_20 : decode cX0_splitLot 20 = .ok (.ldiv, 1) := by decide +kernel
theorem dX0_splitLot_21 : decode cX0_splitLot 21 = .ok (.lstore 5, 2) := by decide +kernel
theorem dX0_splitLot_23 : decode cX0_splitLot 23 = .ok (.aload_n 0, 1) := by decide +kernel
theorem dX0_splitLot_24 : decode cX0_splitLot 24 = .ok (.iload_n 2, 1) := by decide +kernel
theorem dX0_splitLot_25 : decode cX0_splitLot 25 = .ok (.aload_n 1, 1) := by decide +kernel
theorem dX0_splitLot_26 : decode cX0_splitLot 26 = .ok (.getfield 84, 3) := by decide +kernel
theorem dX0_splitLot_29 : decode cX0_splitLot 29 = .ok (.lload_n 3, 1) := by decide +kernel
theorem dX0_splitLot_30 : decode cX0_splitLot 30 = .ok (.aload_n 1, 1) := by decide +kernel
theorem dX0_splitLot_31 : decode cX0_splitLot 31 = .ok (.getfield 114, 3) := by decide +kernel
theorem dX0_splitLot_34 : decode cX0_splitLot 34 = .ok (.lload 5, 2) := by decide +kernel
theorem dX0_splitLot_36 : decode cX0_splitLot 36 = .ok (.invokevirtual 157, 3) := by decide +kernel
theorem dX0_splitLot_39 : decode cX0_splitLot 39 = .ok (.astore 7, 2) := by decide +kernel
theorem dX0_splitLot_41 : decode cX0_splitLot 41 = .ok (.aload 7, 2) := by decide +kernel
theorem dX0_splitLot_43 : decode cX0_splitLot 43 = .ok (.aload_n 1, 1) := by decide +kernel
theorem dX0_splitLot_44 : decode cX0_splitLot 44 = .ok (.getfield 133, 3) := by decide +kernel
theorem dX0_splitLot_47 : decode cX0_splitLot 47 = .ok (.putfield 133, 3) := by decide +kernel
theorem dX0_splitLot_50 : decode cX0_splitLot 50 = .ok (.aload_n 1, 1) := by decide +kernel
theorem dX0_splitLot_51 : decode cX0_splitLot 51 = .ok (.dup, 1) := by decide +kernel
theorem dX0_splitLot_52 : decode cX0_splitLot 52 = .ok (.getfield 80, 3) := by decide +kernel
theorem dX0_splitLot_55 : decode cX0_splitLot 55 = .ok (.lload_n 3, 1) := by decide +kernel
theorem dX0_splitLot_56 : decode cX0_splitLot 56 = .ok (.lsub, 1) := by decide +kernel
theorem dX0_splitLot_57 : decode cX0_splitLot 57 = .ok (.putfield 80, 3) := by decide +kernel
theorem dX0_splitLot_60 : decode cX0_splitLot 60 = .ok (.aload_n 1, 1) := by decide +kernel
theorem dX0_splitLot_61 : decode cX0_splitLot 61 = .ok (.dup, 1) := by decide +kernel
theorem dX0_splitLot_62 : decode cX0_splitLot 62 = .ok (.getfield 130, 3) := by decide +kernel
theorem dX0_splitLot_65 : decode cX0_splitLot 65 = .ok (.lload 5, 2) := by decide +kernel
theorem dX0_splitLot_67 : decode cX0_splitLot 67 = .ok (.lsub, 1) := by decide +kernel
theorem dX0_splitLot_68 : decode cX0_splitLot 68 = .ok (.putfield 130, 3) := by decide +kernel
theorem dX0_splitLot_71 : decode cX0_splitLot 71 = .ok (.return_, 1) := by decide +kernel
theorem dX0_subscriptionFault_0 : decode cX0_subscriptionFault 0 = .ok (.aload_n 0, 1) := by decide +kernel
theorem dX0_subscriptionFault_1 : decode cX0_subscriptionFault 1 = .ok (.iload_n 1, 1) := by decide +kernel
theorem dX0_subscriptionFault_2 : decode cX0_subscriptionFault 2 = .ok (.invokevirtual 135, 3) := by decide +kernel
theorem dX0_subscriptionFault_5 : decode cX0_subscriptionFault 5 = .ok (.ifCond .ne 5, 3) := by decide +kernel
theorem dX0_subscriptionFault_8 : decode cX0_subscriptionFault 8 = .ok (.iconst 1, 1) := by decide +kernel
theorem dX0_subscriptionFault_9 : decode cX0_subscriptionFault 9 = .ok (.ireturn, 1) := by decide +kernel
theorem dX0_subscriptionFault_10 : decode cX0_subscriptionFault 10 = .ok (.iload_n 2, 1) := by decide +kernel
theorem dX0_subscriptionFault_11 : decode cX0_subscriptionFault 11 = .ok (.iconst 1, 1) := by decide +kernel
theorem dX0_subscriptionFault_12 : decode cX0_subscriptionFault 12 = .ok (.if_icmp .lt 9, 3) := by decide +kernel
theorem dX0_subscriptionFault_15 : decode cX0_subscriptionFault 15 = .ok (.iload_n 2, 1) := by decide +kernel
theorem dX0_subscriptionFault_16 : decode cX0_subscriptionFault 16 = .ok (.ldc 161, 2) := by decide +kernel
theorem dX0_subscriptionFault_18 : decode cX0_subscriptionFault 18 = .ok (.if_icmp .le 5, 3) := by decide +kernel
theorem dX0_subscriptionFault_21 : decode cX0_subscriptionFault 21 = .ok (.iconst 2, 1) := by decide +kernel
theorem dX0_subscriptionFault_22 : decode cX0_subscriptionFault 22 = .ok (.ireturn, 1) := by decide +kernel
theorem dX0_subscriptionFault_23 : decode cX0_subscriptionFault 23 = .ok (.aload_n 0, 1) := by decide +kernel
theorem dX0_subscriptionFault_24 : decode cX0_subscriptionFault 24 = .ok (.getfield 39, 3) := by decide +kernel
theorem dX0_subscriptionFault_27 : decode cX0_subscriptionFault 27 = .ok (.bipush 12, 2) := by decide +kernel
theorem dX0_subscriptionFault_29 : decode cX0_subscriptionFault 29 = .ok (.if_icmp .lt 7, 3) := by decide +kernel
theorem dX0_subscriptionFault_32 : decode cX0_subscriptionFault 32 = .ok (.iconst 3, 1) := by decide +kernel
theorem dX0_subscriptionFault_33 : decode cX0_subscriptionFault 33 = .ok (.goto 4, 3) := by decide +kernel
theorem dX0_subscriptionFault_36 : decode cX0_subscriptionFault 36 = .ok (.iconst 0, 1) := by decide +kernel
theorem dX0_subscriptionFault_37 : decode cX0_subscriptionFault 37 = .ok (.ireturn, 1) := by decide +kernel
theorem dX0_redemptionFault_0 : decode cX0_redemptionFault 0 = .ok (.aload_n 0, 1) := by decide +kernel
theorem dX0_redemptionFault_1 : decode cX0_redemptionFault 1 = .ok (.iload_n 1, 1) := by decide +kernel
theorem dX0_redemptionFault_2 : decode cX0_redemptionFault 2 = .ok (.invokevirtual 135, 3) := by decide +kernel
theorem dX0_redemptionFault_5 : decode cX0_redemptionFault 5 = .ok (.ifCond .ne 5, 3) := by decide +kernel
theorem dX0_redemptionFault_8 : decode cX0_redemptionFault 8 = .ok (.iconst 1, 1) := by decide +kernel
theorem dX0_redemptionFault_9 : decode cX0_redemptionFault 9 = .ok (.ireturn, 1) := by decide +kernel
theorem dX0_redemptionFault_10 : decode cX0_redemptionFault 10 = .ok (.iload_n 2, 1) := by decide +kernel
theorem dX0_redemptionFault_11 : decode cX0_redemptionFault 11 = .ok (.iconst 1, 1) := by decide +kernel
theorem dX0_redemptionFault_12 : decode cX0_redemptionFault 12 = .ok (.if_icmp .lt 9, 3) := by decide +kernel
theorem dX0_redemptionFault_15 : decode cX0_redemptionFault 15 = .ok (.iload_n 2, 1) := by decide +kernel
theorem dX0_redemptionFault_16 : decode cX0_redemptionFault 16 = .ok (.ldc 139, 2) := by decide +kernel
theorem dX0_redemptionFault_18 : decode cX0_redemptionFault 18 = .ok (.if_icmp .le 5, 3) := by decide +kernel
theorem dX0_redemptionFault_21 : decode cX0_redemptionFault 21 = .ok (.iconst 2, 1) := by decide +kernel
theorem dX0_redemptionFault_22 : decode cX0_redemptionFault 22 = .ok (.ireturn, 1) := by decide +kernel
theorem dX0_redemptionFault_23 : decode cX0_redemptionFault 23 = .ok (.aload_n 0, 1) := by decide +kernel
theorem dX0_redemptionFault_24 : decode cX0_redemptionFault 24 = .ok (.getfield 39, 3) := by decide +kernel
theorem dX0_redemptionFault_27 : decode cX0_redemptionFault 27 = .ok (.bipush 12, 2) := by decide +kernel
theorem dX0_redemptionFault_29 : decode cX0_redemptionFault 29 = .ok (.if_icmp .lt 5, 3) := by decide +kernel
theorem dX0_redemptionFault_32 : decode cX0_redemptionFault 32 = .ok (.iconst 3, 1) := by decide +kernel
theorem dX0_redemptionFault_33 : decode cX0_redemptionFault 33 = .ok (.ireturn, 1) := by decide +kernel
theorem dX0_redemptionFault_34 : decode cX0_redemptionFault 34 = .ok (.aload_n 0, 1) := by decide +kernel
theorem dX0_redemptionFault_35 : decode cX0_redemptionFault 35 = .ok (.iload_n 1, 1) := by decide +kernel
theorem dX0_redemptionFault_36 : decode cX0_redemptionFault 36 = .ok (.invokevirtual 143, 3) := by decide +kernel
theorem dX0_redemptionFault_39 : decode cX0_redemptionFault 39 = .ok (.iload_n 2, 1) := by decide +kernel
theorem dX0_redemptionFault_40 : decode cX0_redemptionFault 40 = .ok (.i2l, 1) := by decide +kernel
theorem dX0_redemptionFault_41 : decode cX0_redemptionFault 41 = .ok (.ladd, 1) := by decide +kernel
theorem dX0_redemptionFault_42 : decode cX0_redemptionFault 42 = .ok (.aload_n 0, 1) := by decide +kernel
theorem dX0_redemptionFault_43 : decode cX0_redemptionFault 43 = .ok (.iload_n 1, 1) := by decide +kernel
theorem dX0_redemptionFault_44 : decode cX0_redemptionFault 44 = .ok (.invokevirtual 140, 3) := by decide +kernel
theorem dX0_redemptionFault_47 : decode cX0_redemptionFault 47 = .ok (.lcmp, 1) := by decide +kernel
theorem dX0_redemptionFault_48 : decode cX0_redemptionFault 48 = .ok (.ifCond .le 7, 3) := by decide +kernel
theorem dX0_redemptionFault_51 : decode cX0_redemptionFault 51 = .ok (.iconst 3, 1) := by decide +kernel
theorem dX0_redemptionFault_52 : decode cX0_redemptionFault 52 = .ok (.goto 4, 3) := by decide +kernel
theorem dX0_redemptionFault_55 : decode cX0_redemptionFault 55 = .ok (.iconst 0, 1) := by decide +kernel
theorem dX0_redemptionFault_56 : decode cX0_redemptionFault 56 = .ok (.ireturn, 1) := by decide +kernel
theorem dX0_unitsWaitingOf_0 : decode cX0_unitsWaitingOf 0 = .ok (.lconst 0, 1) := by decide +kernel
theorem dX0_unitsWaitingOf_1 : decode cX0_unitsWaitingOf 1 = .ok (.lstore_n 2, 1) := by decide +kernel
theorem dX0_unitsWaitingOf_2 : decode cX0_unitsWaitingOf 2 = .ok (.iconst 0, 1) := by decide +kernel
theorem dX0_unitsWaitingOf_3 : decode cX0_unitsWaitingOf 3 = .ok (.istore 4, 2) := by decide +kernel
theorem dX0_unitsWaitingOf_5 : decode cX0_unitsWaitingOf 5 = .ok (.iload 4, 2) := by decide +kernel
theorem dX0_unitsWaitingOf_7 : decode cX0_unitsWaitingOf 7 = .ok (.aload_n 0, 1) := by decide +kernel
theorem dX0_unitsWaitingOf_8 : decode cX0_unitsWaitingOf 8 = .ok (.getfield 39, 3) := by decide +kernel
theorem dX0_unitsWaitingOf_11 : decode cX0_unitsWaitingOf 11 = .ok (.if_icmp .ge 49, 3) := by decide +kernel
theorem dX0_unitsWaitingOf_14 : decode cX0_unitsWaitingOf 14 = .ok (.aload_n 0, 1) := by decide +kernel
theorem dX0_unitsWaitingOf_15 : decode cX0_unitsWaitingOf 15 = .ok (.getfield 60, 3) := by decide +kernel
theorem dX0_unitsWaitingOf_18 : decode cX0_unitsWaitingOf 18 = .ok (.iload 4, 2) := by decide +kernel
theorem dX0_unitsWaitingOf_20 : decode cX0_unitsWaitingOf 20 = .ok (.aaload, 1) := by decide +kernel
theorem dX0_unitsWaitingOf_21 : decode cX0_unitsWaitingOf 21 = .ok (.getfield 162, 3) := by decide +kernel
theorem dX0_unitsWaitingOf_24 : decode cX0_unitsWaitingOf 24 = .ok (.ifCond .eq 30, 3) := by decide +kernel
theorem dX0_unitsWaitingOf_27 : decode cX0_unitsWaitingOf 27 = .ok (.aload_n 0, 1) := by decide +kernel
theorem dX0_unitsWaitingOf_28 : decode cX0_unitsWaitingOf 28 = .ok (.getfield 60, 3) := by decide +kernel
theorem dX0_unitsWaitingOf_31 : decode cX0_unitsWaitingOf 31 = .ok (.iload 4, 2) := by decide +kernel
theorem dX0_unitsWaitingOf_33 : decode cX0_unitsWaitingOf 33 = .ok (.aaload, 1) := by decide +kernel
theorem dX0_unitsWaitingOf_34 : decode cX0_unitsWaitingOf 34 = .ok (.getfield 166, 3) := by decide +kernel
theorem dX0_unitsWaitingOf_37 : decode cX0_unitsWaitingOf 37 = .ok (.iload_n 1, 1) := by decide +kernel
theorem dX0_unitsWaitingOf_38 : decode cX0_unitsWaitingOf 38 = .ok (.if_icmp .ne 16, 3) := by decide +kernel
theorem dX0_unitsWaitingOf_41 : decode cX0_unitsWaitingOf 41 = .ok (.lload_n 2, 1) := by decide +kernel
theorem dX0_unitsWaitingOf_42 : decode cX0_unitsWaitingOf 42 = .ok (.aload_n 0, 1) := by decide +kernel
theorem dX0_unitsWaitingOf_43 : decode cX0_unitsWaitingOf 43 = .ok (.getfield 60, 3) := by decide +kernel
theorem dX0_unitsWaitingOf_46 : decode cX0_unitsWaitingOf 46 = .ok (.iload 4, 2) := by decide +kernel
theorem dX0_unitsWaitingOf_48 : decode cX0_unitsWaitingOf 48 = .ok (.aaload, 1) := by decide +kernel
theorem dX0_unitsWaitingOf_49 : decode cX0_unitsWaitingOf 49 = .ok (.getfield 167, 3) := by decide +kernel
theorem dX0_unitsWaitingOf_52 : decode cX0_unitsWaitingOf 52 = .ok (.ladd, 1) := by decide +kernel
theorem dX0_unitsWaitingOf_53 : decode cX0_unitsWaitingOf 53 = .ok (.lstore_n 2, 1) := by decide +kernel
theorem dX0_unitsWaitingOf_54 : decode cX0_unitsWaitingOf 54 = .ok (.iinc 4 1, 3) := by decide +kernel
theorem dX0_unitsWaitingOf_57 : decode cX0_unitsWaitingOf 57 = .ok (.goto (-52), 3) := by decide +kernel
theorem dX0_unitsWaitingOf_60 : decode cX0_unitsWaitingOf 60 = .ok (.lload_n 2, 1) := by decide +kernel
theorem dX0_unitsWaitingOf_61 : decode cX0_unitsWaitingOf 61 = .ok (.lreturn, 1) := by decide +kernel
theorem dX0_addRequest_0 : decode cX0_addRequest 0 = .ok (.aload_n 0, 1) := by decide +kernel
theorem dX0_addRequest_1 : decode cX0_addRequest 1 = .ok (.getfield 39, 3) := by decide +kernel
theorem dX0_addRequest_4 : decode cX0_addRequest 4 = .ok (.bipush 11, 2) := by decide +kernel
theorem dX0_addRequest_6 : decode cX0_addRequest 6 = .ok (.invokestatic 120, 3) := by decide +kernel
theorem dX0_addRequest_9 : decode cX0_addRequest 9 = .ok (.istore 5, 2) := by decide +kernel
theorem dX0_addRequest_11 : decode cX0_addRequest 11 = .ok (.aload_n 0, 1) := by decide +kernel
theorem dX0_addRequest_12 : decode cX0_addRequest 12 = .ok (.getfield 60, 3) := by decide +kernel
theorem dX0_addRequest_15 : decode cX0_addRequest 15 = .ok (.iload 5, 2) := by decide +kernel
theorem dX0_addRequest_17 : decode cX0_addRequest 17 = .ok (.aaload, 1) := by decide +kernel
theorem dX0_addRequest_18 : decode cX0_addRequest 18 = .ok (.astore 6, 2) := by decide +kernel
theorem dX0_addRequest_20 : decode cX0_addRequest 20 = .ok (.aload 6, 2) := by decide +kernel
theorem dX0_addRequest_22 : decode cX0_addRequest 22 = .ok (.iload_n 1, 1) := by decide +kernel
theorem dX0_addRequest_23 : decode cX0_addRequest 23 = .ok (.putfield 166, 3) := by decide +kernel
theorem dX0_addRequest_26 : decode cX0_addRequest 26 = .ok (.aload 6, 2) := by decide +kernel
theorem dX0_addRequest_28 : decode cX0_addRequest 28 = .ok (.iload_n 2, 1) := by decide +kernel
theorem dX0_addRequest_29 : decode cX0_addRequest 29 = .ok (.putfield 162, 3) := by decide +kernel
theorem dX0_addRequest_32 : decode cX0_addRequest 32 = .ok (.aload 6, 2) := by decide +kernel
theorem dX0_addRequest_34 : decode cX0_addRequest 34 = .ok (.lload_n 3, 1) := by decide +kernel
theorem dX0_addRequest_35 : decode cX0_addRequest 35 = .ok (.putfield 167, 3) := by decide +kernel
theorem dX0_addRequest_38 : decode cX0_addRequest 38 = .ok (.aload 6, 2) := by decide +kernel
theorem dX0_addRequest_40 : decode cX0_addRequest 40 = .ok (.lconst 0, 1) := by decide +kernel
theorem dX0_addRequest_41 : decode cX0_addRequest 41 = .ok (.putfield 170, 3) := by decide +kernel
theorem dX0_addRequest_44 : decode cX0_addRequest 44 = .ok (.aload 6, 2) := by decide +kernel
theorem dX0_addRequest_46 : decode cX0_addRequest 46 = .ok (.aload_n 0, 1) := by decide +kernel
theorem dX0_addRequest_47 : decode cX0_addRequest 47 = .ok (.getfield 27, 3) := by decide +kernel
theorem dX0_addRequest_50 : decode cX0_addRequest 50 = .ok (.putfield 173, 3) := by decide +kernel
theorem dX0_addRequest_53 : decode cX0_addRequest 53 = .ok (.aload_n 0, 1) := by decide +kernel
theorem dX0_addRequest_54 : decode cX0_addRequest 54 = .ok (.iload 5, 2) := by decide +kernel
theorem dX0_addRequest_56 : decode cX0_addRequest 56 = .ok (.iconst 1, 1) := by decide +kernel
theorem dX0_addRequest_57 : decode cX0_addRequest 57 = .ok (.iadd, 1) := by decide +kernel
theorem dX0_addRequest_58 : decode cX0_addRequest 58 = .ok (.putfield 39, 3) := by decide +kernel
theorem dX0_addRequest_61 : decode cX0_addRequest 61 = .ok (.iload 5, 2) := by decide +kernel
theorem dX0_addRequest_63 : decode cX0_addRequest 63 = .ok (.ireturn, 1) := by decide +kernel
theorem dX0_removeRequest_0 : decode cX0_removeRequest 0 = .ok (.iload_n 1, 1) := by decide +kernel
theorem dX0_removeRequest_1 : decode cX0_removeRequest 1 = .ok (.ifCond .lt 26, 3) := by decide +kernel
theorem dX0_removeRequest_4 : decode cX0_removeRequest 4 = .ok (.iload_n 1, 1) := by decide +kernel
theorem dX0_removeRequest_5 : decode cX0_removeRequest 5 = .ok (.aload_n 0, 1) := by decide +kernel
theorem dX0_removeRequest_6 : decode cX0_removeRequest 6 = .ok (.getfield 39, 3) := by decide +kernel
theorem dX0_removeRequest_9 : decode cX0_removeRequest 9 = .ok (.if_icmp .ge 18, 3) := by decide +kernel
theorem dX0_removeRequest_12 : decode cX0_removeRequest 12 = .ok (.aload_n 0, 1) := by decide +kernel
theorem dX0_removeRequest_13 : decode cX0_removeRequest 13 = .ok (.getfield 60, 3) := by decide +kernel
theorem dX0_removeRequest_16 : decode cX0_removeRequest 16 = .ok (.iload_n 1, 1) := by decide +kernel
theorem dX0_removeRequest_17 : decode cX0_removeRequest 17 = .ok (.aaload, 1) := by decide +kernel
theorem dX0_removeRequest_18 : decode cX0_removeRequest 18 = .ok (.lconst 0, 1) := by decide +kernel
theorem dX0_removeRequest_19 : decode cX0_removeRequest 19 = .ok (.putfield 167, 3) := by decide +kernel
theorem dX0_removeRequest_22 : decode cX0_removeRequest 22 = .ok (.aload_n 0, 1) := by decide +kernel
theorem dX0_removeRequest_23 : decode cX0_removeRequest 23 = .ok (.invokevirtual 174, 3) := by decide +kernel
theorem dX0_removeRequest_26 : decode cX0_removeRequest 26 = .ok (.pop, 1) := by decide +kernel
theorem dX0_removeRequest_27 : decode cX0_removeRequest 27 = .ok (.return_, 1) := by decide +kernel
theorem dX0_isDone_0 : decode cX0_isDone 0 = .ok (.iload_n 1, 1) := by decide +kernel
theorem dX0_isDone_1 : decode cX0_isDone 1 = .ok (.ifCond .lt 29, 3) := by decide +kernel
theorem dX0_isDone_4 : decode cX0_isDone 4 = .ok (.iload_n 1, 1) := by decide +kernel
theorem dX0_isDone_5 : decode cX0_isDone 5 = .ok (.aload_n 0, 1) := by decide +kernel
theorem dX0_isDone_6 : decode cX0_isDone 6 = .ok (.getfield 39, 3) := by decide +kernel
theorem dX0_isDone_9 : decode cX0_isDone 9 = .ok (.if_icmp .ge 21, 3) := by decide +kernel
theorem dX0_isDone_12 : decode cX0_isDone 12 = .ok (.aload_n 0, 1) := by decide +kernel
theorem dX0_isDone_13 : decode cX0_isDone 13 = .ok (.getfield 60, 3) := by decide +kernel
theorem dX0_isDone_16 : decode cX0_isDone 16 = .ok (.iload_n 1, 1) := by decide +kernel
theorem dX0_isDone_17 : decode cX0_isDone 17 = .ok (.aaload, 1) := by decide +kernel
theorem dX0_isDone_18 : decode cX0_isDone 18 = .ok (.getfield 167, 3) := by decide +kernel
theorem dX0_isDone_21 : decode cX0_isDone 21 = .ok (.lconst 0, 1) := by decide +kernel
theorem dX0_isDone_22 : decode cX0_isDone 22 = .ok (.lcmp, 1) := by decide +kernel
theorem dX0_isDone_23 : decode cX0_isDone 23 = .ok (.ifCond .ne 7, 3) := by decide +kernel
theorem dX0_isDone_26 : decode cX0_isDone 26 = .ok (.iconst 1, 1) := by decide +kernel
theorem dX0_isDone_27 : decode cX0_isDone 27 = .ok (.goto 4, 3) := by decide +kernel
theorem dX0_isDone_30 : decode cX0_isDone 30 = .ok (.iconst 0, 1) := by decide +kernel
theorem dX0_isDone_31 : decode cX0_isDone 31 = .ok (.ireturn, 1) := by decide +kernel
theorem dX0_doneBefore_0 : decode cX0_doneBefore 0 = .ok (.iconst 0, 1) := by decide +kernel
theorem dX0_doneBefore_1 : decode cX0_doneBefore 1 = .ok (.istore_n 2, 1) := by decide +kernel
theorem dX0_doneBefore_2 : decode cX0_doneBefore 2 = .ok (.iconst 0, 1) := by decide +kernel
theorem dX0_doneBefore_3 : decode cX0_doneBefore 3 = .ok (.istore_n 3, 1) := by decide +kernel
theorem dX0_doneBefore_4 : decode cX0_doneBefore 4 = .ok (.iload_n 3, 1) := by decide +kernel
theorem dX0_doneBefore_5 : decode cX0_doneBefore 5 = .ok (.iload_n 1, 1) := by decide +kernel
theorem dX0_doneBefore_6 : decode cX0_doneBefore 6 = .ok (.if_icmp .ge 34, 3) := by decide +kernel
theorem dX0_doneBefore_9 : decode cX0_doneBefore 9 = .ok (.iload_n 3, 1) := by decide +kernel
theorem dX0_doneBefore_10 : decode cX0_doneBefore 10 = .ok (.aload_n 0, 1) := by decide +kernel
theorem dX0_doneBefore_11 : decode cX0_doneBefore 11 = .ok (.getfield 39, 3) := by decide +kernel
theorem dX0_doneBefore_14 : decode cX0_doneBefore 14 = .ok (.if_icmp .ge 26, 3) := by decide +kernel
theorem dX0_doneBefore_17 : decode cX0_doneBefore 17 = .ok (.aload_n 0, 1) := by decide +kernel
theorem dX0_doneBefore_18 : decode cX0_doneBefore 18 = .ok (.getfield 60, 3) := by decide +kernel
theorem dX0_doneBefore_21 : decode cX0_doneBefore 21 = .ok (.iload_n 3, 1) := by decide +kernel
theorem dX0_doneBefore_22 : decode cX0_doneBefore 22 = .ok (.aaload, 1) := by decide +kernel
theorem dX0_doneBefore_23 : decode cX0_doneBefore 23 = .ok (.getfield 167, 3) := by decide +kernel
theorem dX0_doneBefore_26 : decode cX0_doneBefore 26 = .ok (.lconst 0, 1) := by decide +kernel
theorem dX0_doneBefore_27 : decode cX0_doneBefore 27 = .ok (.lcmp, 1) := by decide +kernel
theorem dX0_doneBefore_28 : decode cX0_doneBefore 28 = .ok (.ifCond .ne 6, 3) := by decide +kernel
theorem dX0_doneBefore_31 : decode cX0_doneBefore 31 = .ok (.iinc 2 1, 3) := by decide +kernel
theorem dX0_doneBefore_34 : decode cX0_doneBefore 34 = .ok (.iinc 3 1, 3) := by decide +kernel
theorem dX0_doneBefore_37 : decode cX0_doneBefore 37 = .ok (.goto (-33), 3) := by decide +kernel
theorem dX0_doneBefore_40 : decode cX0_doneBefore 40 = .ok (.iload_n 2, 1) := by decide +kernel
theorem dX0_doneBefore_41 : decode cX0_doneBefore 41 = .ok (.ireturn, 1) := by decide +kernel
theorem dX0_dropDoneRequests_0 : decode cX0_dropDoneRequests 0 = .ok (.iconst 0, 1) := by decide +kernel
theorem dX0_dropDoneRequests_1 : decode cX0_dropDoneRequests 1 = .ok (.istore_n 1, 1) := by decide +kernel
theorem dX0_dropDoneRequests_2 : decode cX0_dropDoneRequests 2 = .ok (.iconst 0, 1) := by decide +kernel
theorem dX0_dropDoneRequests_3 : decode cX0_dropDoneRequests 3 = .ok (.istore_n 2, 1) := by decide +kernel
theorem dX0_dropDoneRequests_4 : decode cX0_dropDoneRequests 4 = .ok (.iload_n 2, 1) := by decide +kernel
theorem dX0_dropDoneRequests_5 : decode cX0_dropDoneRequests 5 = .ok (.aload_n 0, 1) := by decide +kernel
theorem dX0_dropDoneRequests_6 : decode cX0_dropDoneRequests 6 = .ok (.getfield 39, 3) := by decide +kernel
theorem dX0_dropDoneRequests_9 : decode cX0_dropDoneRequests 9 = .ok (.if_icmp .ge 47, 3) := by decide +kernel
theorem dX0_dropDoneRequests_12 : decode cX0_dropDoneRequests 12 = .ok (.aload_n 0, 1) := by decide +kernel
theorem dX0_dropDoneRequests_13 : decode cX0_dropDoneRequests 13 = .ok (.getfield 60, 3) := by decide +kernel
theorem dX0_dropDoneRequests_16 : decode cX0_dropDoneRequests 16 = .ok (.iload_n 2, 1) := by decide +kernel
theorem dX0_dropDoneRequests_17 : decode cX0_dropDoneRequests 17 = .ok (.aaload, 1) := by decide +kernel
theorem dX0_dropDoneRequests_18 : decode cX0_dropDoneRequests 18 = .ok (.astore_n 3, 1) := by decide +kernel
theorem dX0_dropDoneRequests_19 : decode cX0_dropDoneRequests 19 = .ok (.aload_n 3, 1) := by decide +kernel
theorem dX0_dropDoneRequests_20 : decode cX0_dropDoneRequests 20 = .ok (.getfield 167, 3) := by decide +kernel
theorem dX0_dropDoneRequests_23 : decode cX0_dropDoneRequests 23 = .ok (.lconst 0, 1) := by decide +kernel
theorem dX0_dropDoneRequests_24 : decode cX0_dropDoneRequests 24 = .ok (.lcmp, 1) := by decide +kernel
theorem dX0_dropDoneRequests_25 : decode cX0_dropDoneRequests 25 = .ok (.ifCond .le 25, 3) := by decide +kernel
theorem dX0_dropDoneRequests_28 : decode cX0_dropDoneRequests 28 = .ok (.aload_n 0, 1) := by decide +kernel
theorem dX0_dropDoneRequests_29 : decode cX0_dropDoneRequests 29 = .ok (.getfield 60, 3) := by decide +kernel
theorem dX0_dropDoneRequests_32 : decode cX0_dropDoneRequests 32 = .ok (.iload_n 2, 1) := by decide +kernel
theorem dX0_dropDoneRequests_33 : decode cX0_dropDoneRequests 33 = .ok (.aload_n 0, 1) := by decide +kernel
theorem dX0_dropDoneRequests_34 : decode cX0_dropDoneRequests 34 = .ok (.getfield 60, 3) := by decide +kernel
theorem dX0_dropDoneRequests_37 : decode cX0_dropDoneRequests 37 = .ok (.iload_n 1, 1) := by decide +kernel
theorem dX0_dropDoneRequests_38 : decode cX0_dropDoneRequests 38 = .ok (.aaload, 1) := by decide +kernel
theorem dX0_dropDoneRequests_39 : decode cX0_dropDoneRequests 39 = .ok (.aastore, 1) := by decide +kernel
theorem dX0_dropDoneRequests_40 : decode cX0_dropDoneRequests 40 = .ok (.aload_n 0, 1) := by decide +kernel
theorem dX0_dropDoneRequests_41 : decode cX0_dropDoneRequests 41 = .ok (.getfield 60, 3) := by decide +kernel
theorem dX0_dropDoneRequests_44 : decode cX0_dropDoneRequests 44 = .ok (.iload_n 1, 1) := by decide +kernel
theorem dX0_dropDoneRequests_45 : decode cX0_dropDoneRequests 45 = .ok (.aload_n 3, 1) := by decide +kernel
theorem dX0_dropDoneRequests_46 : decode cX0_dropDoneRequests 46 = .ok (.aastore, 1) := by decide +kernel
theorem dX0_dropDoneRequests_47 : decode cX0_dropDoneRequests 47 = .ok (.iinc 1 1, 3) := by decide +kernel
theorem dX0_dropDoneRequests_50 : decode cX0_dropDoneRequests 50 = .ok (.iinc 2 1, 3) := by decide +kernel
theorem dX0_dropDoneRequests_53 : decode cX0_dropDoneRequests 53 = .ok (.goto (-49), 3) := by decide +kernel
theorem dX0_dropDoneRequests_56 : decode cX0_dropDoneRequests 56 = .ok (.aload_n 0, 1) := by decide +kernel
theorem dX0_dropDoneRequests_57 : decode cX0_dropDoneRequests 57 = .ok (.getfield 39, 3) := by decide +kernel
theorem dX0_dropDoneRequests_60 : decode cX0_dropDoneRequests 60 = .ok (.iload_n 1, 1) := by decide +kernel
theorem dX0_dropDoneRequests_61 : decode cX0_dropDoneRequests 61 = .ok (.isub, 1) := by decide +kernel
theorem dX0_dropDoneRequests_62 : decode cX0_dropDoneRequests 62 = .ok (.istore_n 2, 1) := by decide +kernel
theorem dX0_dropDoneRequests_63 : decode cX0_dropDoneRequests 63 = .ok (.aload_n 0, 1) := by decide +kernel
theorem dX0_dropDoneRequests_64 : decode cX0_dropDoneRequests 64 = .ok (.iload_n 1, 1) := by decide +kernel
theorem dX0_dropDoneRequests_65 : decode cX0_dropDoneRequests 65 = .ok (.putfield 39, 3) := by decide +kernel
theorem dX0_dropDoneRequests_68 : decode cX0_dropDoneRequests 68 = .ok (.iload_n 2, 1) := by decide +kernel
theorem dX0_dropDoneRequests_69 : decode cX0_dropDoneRequests 69 = .ok (.ireturn, 1) := by decide +kernel
theorem dX1_init_0 : decode cX1_init 0 = .ok (.aload_n 0, 1) := by decide +kernel
theorem dX1_init_1 : decode cX1_init 1 = .ok (.invokespecial 3, 3) := by decide +kernel
theorem dX1_init_4 : decode cX1_init 4 = .ok (.aload_n 0, 1) := by decide +kernel
theorem dX1_init_5 : decode cX1_init 5 = .ok (.bipush 6, 2) := by decide +kernel
theorem dX1_init_7 : decode cX1_init 7 = .ok (.anewarray 9, 3) := by decide +kernel
theorem dX1_init_10 : decode cX1_init 10 = .ok (.putfield 11, 3) := by decide +kernel
theorem dX1_init_13 : decode cX1_init 13 = .ok (.aload_n 0, 1) := by decide +kernel
theorem dX1_init_14 : decode cX1_init 14 = .ok (.lconst 0, 1) := by decide +kernel
theorem dX1_init_15 : decode cX1_init 15 = .ok (.putfield 17, 3) := by decide +kernel
theorem dX1_init_18 : decode cX1_init 18 = .ok (.aload_n 0, 1) := by decide +kernel
theorem dX1_init_19 : decode cX1_init 19 = .ok (.lconst 0, 1) := by decide +kernel
theorem dX1_init_20 : decode cX1_init 20 = .ok (.putfield 21, 3) := by decide +kernel
theorem dX1_init_23 : decode cX1_init 23 = .ok (.aload_n 0, 1) := by decide +kernel
theorem dX1_init_24 : decode cX1_init 24 = .ok (.lconst 0, 1) := by decide +kernel
theorem dX1_init_25 : decode cX1_init 25 = .ok (.putfield 24, 3) := by decide +kernel
theorem dX1_init_28 : decode cX1_init 28 = .ok (.aload_n 0, 1) := by decide +kernel
theorem dX1_init_29 : decode cX1_init 29 = .ok (.lconst 0, 1) := by decide +kernel
theorem dX1_init_30 : decode cX1_init 30 = .ok (.putfield 27, 3) := by decide +kernel
theorem dX1_init_33 : decode cX1_init 33 = .ok (.aload_n 0, 1) := by decide +kernel
theorem dX1_init_34 : decode cX1_init 34 = .ok (.lconst 0, 1) := by decide +kernel
theorem dX1_init_35 : decode cX1_init 35 = .ok (.putfield 30, 3) := by decide +kernel
theorem dX1_init_38 : decode cX1_init 38 = .ok (.iconst 0, 1) := by decide +kernel
theorem dX1_init_39 : decode cX1_init 39 = .ok (.istore_n 1, 1) := by decide +kernel
theorem dX1_init_40 : decode cX1_init 40 = .ok (.iload_n 1, 1) := by decide +kernel
theorem dX1_init_41 : decode cX1_init 41 = .ok (.bipush 6, 2) := by decide +kernel
theorem dX1_init_43 : decode cX1_init 43 = .ok (.if_icmp .ge 22, 3) := by decide +kernel
theorem dX1_init_46 : decode cX1_init 46 = .ok (.aload_n 0, 1) := by decide +kernel
theorem dX1_init_47 : decode cX1_init 47 = .ok (.getfield 11, 3) := by decide +kernel
theorem dX1_init_50 : decode cX1_init 50 = .ok (.iload_n 1, 1) := by decide +kernel
theorem dX1_init_51 : decode cX1_init 51 = .ok (.new 9, 3) := by decide +kernel
theorem dX1_init_54 : decode cX1_init 54 = .ok (.dup, 1) := by decide +kernel
theorem dX1_init_55 : decode cX1_init 55 = .ok (.invokespecial 33, 3) := by decide +kernel
theorem dX1_init_58 : decode cX1_init 58 = .ok (.aastore, 1) := by decide +kernel
theorem dX1_init_59 : decode cX1_init 59 = .ok (.iinc 1 1, 3) := by decide +kernel
theorem dX1_init_62 : decode cX1_init 62 = .ok (.goto (-22), 3) := by decide +kernel
theorem dX1_init_65 : decode cX1_init 65 = .ok (.return_, 1) := by decide +kernel
theorem dX1_holdDealing_0 : decode cX1_holdDealing 0 = .ok (.aload_n 0, 1) := by decide +kernel
theorem dX1_holdDealing_1 : decode cX1_holdDealing 1 = .ok (.aload_n 1, 1) := by decide +kernel
theorem dX1_holdDealing_2 : decode cX1_holdDealing 2 = .ok (.aload_n 0, 1) := by decide +kernel
theorem dX1_holdDealing_3 : decode cX1_holdDealing 3 = .ok (.aload_n 1, 1) := by decide +kernel
theorem dX1_holdDealing_4 : decode cX1_holdDealing 4 = .ok (.invokevirtual 34, 3) := by decide +kernel
theorem dX1_holdDealing_7 : decode cX1_holdDealing 7 = .ok (.invokevirtual 38, 3) := by decide +kernel
theorem dX1_holdDealing_10 : decode cX1_holdDealing 10 = .ok (.aload_n 0, 1) := by decide +kernel
theorem dX1_holdDealing_11 : decode cX1_holdDealing 11 = .ok (.aload_n 1, 1) := by decide +kernel
theorem dX1_holdDealing_12 : decode cX1_holdDealing 12 = .ok (.invokevirtual 42, 3) := by decide +kernel
theorem dX1_holdDealing_15 : decode cX1_holdDealing 15 = .ok (.aload_n 1, 1) := by decide +kernel
theorem dX1_holdDealing_16 : decode cX1_holdDealing 16 = .ok (.invokevirtual 46, 3) := by decide +kernel
theorem dX1_holdDealing_19 : decode cX1_holdDealing 19 = .ok (.ireturn, 1) := by decide +kernel
theorem dX1_redeemWaiting_0 : decode cX1_redeemWaiting 0 = .ok (.aload_n 1, 1) := by decide +kernel
theorem dX1_redeemWaiting_1 : decode cX1_redeemWaiting 1 = .ok (.invokevirtual 52, 3) := by decide +kernel
theorem dX1_redeemWaiting_4 : decode cX1_redeemWaiting 4 = .ok (.lstore 4, 2) := by decide +kernel
theorem dX1_redeemWaiting_6 : decode cX1_redeemWaiting 6 = .ok (.iconst 0, 1) := by decide +kernel
theorem dX1_redeemWaiting_7 : decode cX1_redeemWaiting 7 = .ok (.istore 6, 2) := by decide +kernel
theorem dX1_redeemWaiting_9 : decode cX1_redeemWaiting 9 = .ok (.iload 6, 2) := by decide +kernel
theorem dX1_redeemWaiting_11 : decode cX1_redeemWaiting 11 = .ok (.aload_n 1, 1) := by decide +kernel
theorem dX1_redeemWaiting_12 : decode cX1_redeemWaiting 12 = .ok (.getfield 56, 3) := by decide +kernel
theorem dX1_redeemWaiting_15 : decode cX1_redeemWaiting 15 = .ok (.if_icmp .ge 84, 3) := by decide +kernel
theorem dX1_redeemWaiting_18 : decode cX1_redeemWaiting 18 = .ok (.aload_n 1, 1) := by decide +kernel
theorem dX1_redeemWaiting_19 : decode cX1_redeemWaiting 19 = .ok (.getfield 60, 3) := by decide +kernel
theorem dX1_redeemWaiting_22 : decode cX1_redeemWaiting 22 = .ok (.iload 6, 2) := by decide +kernel
theorem dX1_redeemWaiting_24 : decode cX1_redeemWaiting 24 = .ok (.aaload, 1) := by decide +kernel
theorem dX1_redeemWaiting_25 : decode cX1_redeemWaiting 25 = .ok (.astore 7, 2) := by decide +kernel
theorem dX1_redeemWaiting_27 : decode cX1_redeemWaiting 27 = .ok (.aload 7, 2) := by decide +kernel
theorem dX1_redeemWaiting_29 : decode cX1_redeemWaiting 29 = .ok (.getfield 64, 3) := by decide +kernel
theorem dX1_redeemWaiting_32 : decode cX1_redeemWaiting 32 = .ok (.ifCond .eq 61, 3) := by decide +kernel
theorem dX1_redeemWaiting_35 : decode cX1_redeemWaiting 35 = .ok (.aload 7, 2) := by decide +kernel
theorem dX1_redeemWaiting_37 : decode cX1_redeemWaiting 37 = .ok (.getfield 70, 3) := by decide +kernel
theorem dX1_redeemWaiting_40 : decode cX1_redeemWaiting 40 = .ok (.lstore 8, 2) := by decide +kernel
theorem dX1_redeemWaiting_42 : decode cX1_redeemWaiting 42 = .ok (.lload_n 2, 1) := by decide +kernel
theorem dX1_redeemWaiting_43 : decode cX1_redeemWaiting 43 = .ok (.lload 4, 2) := by decide +kernel
theorem dX1_redeemWaiting_45 : decode cX1_redeemWaiting 45 = .ok (.lcmp, 1) := by decide +kernel
theorem dX1_redeemWaiting_46 : decode cX1_redeemWaiting 46 = .ok (.ifCond .le 18, 3) := by decide +kernel
theorem dX1_redeemWaiting_49 : decode cX1_redeemWaiting 49 = .ok (.lload_n 2, 1) := by decide +kernel
theorem dX1_redeemWaiting_50 : decode cX1_redeemWaiting 50 = .ok (.lconst 0, 1) := by decide +kernel
theorem dX1_redeemWaiting_51 : decode cX1_redeemWaiting 51 = .ok (.lcmp, 1) := by decide +kernel
theorem dX1_redeemWaiting_52 : decode cX1_redeemWaiting 52 = .ok (.ifCond .le 12, 3) := by decide +kernel
theorem dX1_redeemWaiting_55 : decode cX1_redeemWaiting 55 = .ok (.lload 8, 2) := by decide +kernel
theorem dX1_redeemWaiting_57 : decode cX1_redeemWaiting 57 = .ok (.lload 4, 2) := by decide +kernel
theorem dX1_redeemWaiting_59 : decode cX1_redeemWaiting 59 = .ok (.lmul, 1) := by decide +kernel
theorem dX1_redeemWaiting_60 : decode cX1_redeemWaiting 60 = .ok (.lload_n 2, 1) := by decide +kernel
theorem dX1_redeemWaiting_61 : decode cX1_redeemWaiting 61 = .ok (.ldiv, 1) := by decide +kernel
theorem dX1_redeemWaiting_62 : decode cX1_redeemWaiting 62 = .ok (.lstore 8, 2) := by decide +kernel
theorem dX1_redeemWaiting_64 : decode cX1_redeemWaiting 64 = .ok (.aload 7, 2) := by decide +kernel
theorem dX1_redeemWaiting_66 : decode cX1_redeemWaiting 66 = .ok (.aload_n 0, 1) := by decide +kernel
theorem dX1_redeemWaiting_67 : decode cX1_redeemWaiting 67 = .ok (.aload_n 1, 1) := by decide +kernel
theorem dX1_redeemWaiting_68 : decode cX1_redeemWaiting 68 = .ok (.aload 7, 2) := by decide +kernel
theorem dX1_redeemWaiting_70 : decode cX1_redeemWaiting 70 = .ok (.getfield 73, 3) := by decide +kernel
theorem dX1_redeemWaiting_73 : decode cX1_redeemWaiting 73 = .ok (.lload 8, 2) := by decide +kernel
theorem dX1_redeemWaiting_75 : decode cX1_redeemWaiting 75 = .ok (.invokevirtual 76, 3) := by decide +kernel
theorem dX1_redeemWaiting_78 : decode cX1_redeemWaiting 78 = .ok (.putfield 80, 3) := by decide +kernel
theorem dX1_redeemWaiting_81 : decode cX1_redeemWaiting 81 = .ok (.aload 7, 2) := by decide +kernel
theorem dX1_redeemWaiting_83 : decode cX1_redeemWaiting 83 = .ok (.dup, 1) := by decide +kernel
theorem dX1_redeemWaiting_84 : decode cX1_redeemWaiting 84 = .ok (.getfield 70, 3) := by decide +kernel
theorem dX1_redeemWaiting_87 : decode cX1_redeemWaiting 87 = .ok (.lload 8, 2) := by decide +kernel
theorem dX1_redeemWaiting_89 : decode cX1_redeemWaiting 89 = .ok (.lsub, 1) := by decide +kernel
theorem dX1_redeemWaiting_90 : decode cX1_redeemWaiting 90 = .ok (.putfield 70, 3) := by decide +kernel
theorem dX1_redeemWaiting_93 : decode cX1_redeemWaiting 93 = .ok (.iinc 6 1, 3) := by decide +kernel
theorem dX1_redeemWaiting_96 : decode cX1_redeemWaiting 96 = .ok (.goto (-87), 3) := by decide +kernel
theorem dX1_redeemWaiting_99 : decode cX1_redeemWaiting 99 = .ok (.iconst 0, 1) := by decide +kernel
theorem dX1_redeemWaiting_100 : decode cX1_redeemWaiting 100 = .ok (.istore 6, 2) := by decide +kernel
theorem dX1_redeemWaiting_102 : decode cX1_redeemWaiting 102 = .ok (.iload 6, 2) := by decide +kernel
theorem dX1_redeemWaiting_104 : decode cX1_redeemWaiting 104 = .ok (.aload_n 1, 1) := by decide +kernel
theorem dX1_redeemWaiting_105 : decode cX1_redeemWaiting 105 = .ok (.getfield 56, 3) := by decide +kernel
theorem dX1_redeemWaiting_108 : decode cX1_redeemWaiting 108 = .ok (.if_icmp .ge 46, 3) := by decide +kernel
theorem dX1_redeemWaiting_111 : decode cX1_redeemWaiting 111 = .ok (.aload_n 1, 1) := by decide +kernel
theorem dX1_redeemWaiting_112 : decode cX1_redeemWaiting 112 = .ok (.getfield 60, 3) := by decide +kernel
theorem dX1_redeemWaiting_115 : decode cX1_redeemWaiting 115 = .ok (.iload 6, 2) := by decide +kernel
theorem dX1_redeemWaiting_117 : decode cX1_redeemWaiting 117 = .ok (.aaload, 1) := by decide +kernel
theorem dX1_redeemWaiting_118 : decode cX1_redeemWaiting 118 = .ok (.astore 7, 2) := by decide +kernel
theorem dX1_redeemWaiting_120 : decode cX1_redeemWaiting 120 = .ok (.aload 7, 2) := by decide +kernel
theorem dX1_redeemWaiting_122 : decode cX1_redeemWaiting 122 = .ok (.getfield 64, 3) := by decide +kernel
theorem dX1_redeemWaiting_125 : decode cX1_redeemWaiting 125 = .ok (.ifCond .eq 23, 3) := by decide +kernel
theorem dX1_redeemWaiting_128 : decode cX1_redeemWaiting 128 = .ok (.aload_n 1, 1) := by decide +kernel
theorem dX1_redeemWaiting_129 : decode cX1_redeemWaiting 129 = .ok (.aload 7, 2) := by decide +kernel
theorem dX1_redeemWaiting_131 : decode cX1_redeemWaiting 131 = .ok (.getfield 73, 3) := by decide +kernel
theorem dX1_redeemWaiting_134 : decode cX1_redeemWaiting 134 = .ok (.invokevirtual 83, 3) := by decide +kernel
theorem dX1_redeemWaiting_137 : decode cX1_redeemWaiting 137 = .ok (.lconst 0, 1) := by decide +kernel
theorem dX1_redeemWaiting_138 : decode cX1_redeemWaiting 138 = .ok (.lcmp, 1) := by decide +kernel
theorem dX1_redeemWaiting_139 : decode cX1_redeemWaiting 139 = .ok (.ifCond .ne 9, 3) := by decide +kernel
theorem dX1_redeemWaiting_142 : decode cX1_redeemWaiting 142 = .ok (.aload 7, 2) := by decide +kernel
theorem dX1_redeemWaiting_144 : decode cX1_redeemWaiting 144 = .ok (.lconst 0, 1) := by decide +kernel
theorem dX1_redeemWaiting_145 : decode cX1_redeemWaiting 145 = .ok (.putfield 70, 3) := by decide +kernel
theorem dX1_redeemWaiting_148 : decode cX1_redeemWaiting 148 = .ok (.iinc 6 1, 3) := by decide +kernel
theorem dX1_redeemWaiting_151 : decode cX1_redeemWaiting 151 = .ok (.goto (-49), 3) := by decide +kernel
theorem dX1_redeemWaiting_154 : decode cX1_redeemWaiting 154 = .ok (.return_, 1) := by decide +kernel
theorem dX1_baseOfRedemptions_0 : decode cX1_baseOfRedemptions 0 = .ok (.lconst 0, 1) := by decide +kernel
theorem dX1_baseOfRedemptions_1 : decode cX1_baseOfRedemptions 1 = .ok (.lstore_n 2, 1) := by decide +kernel
theorem dX1_baseOfRedemptions_2 : decode cX1_baseOfRedemptions 2 = .ok (.iconst 0, 1) := by decide +kernel
theorem dX1_baseOfRedemptions_3 : decode cX1_baseOfRedemptions 3 = .ok (.istore 4, 2) := by decide +kernel
theorem dX1_baseOfRedemptions_5 : decode cX1_baseOfRedemptions 5 = .ok (.iload 4, 2) := by decide +kernel
theorem dX1_baseOfRedemptions_7 : decode cX1_baseOfRedemptions 7 = .ok (.aload_n 1, 1) := by decide +kernel
theorem dX1_baseOfRedemptions_8 : decode cX1_baseOfRedemptions 8 = .ok (.getfield 56, 3) := by decide +kernel
theorem dX1_baseOfRedemptions_11 : decode cX1_baseOfRedemptions 11 = .ok (.if_icmp .ge 51, 3) := by decide +kernel
theorem dX1_baseOfRedemptions_14 : decode cX1_baseOfRedemptions 14 = .ok (.aload_n 1, 1) := by decide +kernel
theorem dX1_baseOfRedemptions_15 : decode cX1_baseOfRedemptions 15 = .ok (.getfield 60, 3) := by decide +kernel
theorem dX1_baseOfRedemptions_18 : decode cX1_baseOfRedemptions 18 = .ok (.iload 4, 2) := by decide +kernel
theorem dX1_baseOfRedemptions_20 : decode cX1_baseOfRedemptions 20 = .ok (.aaload, 1) := by decide +kernel
theorem dX1_baseOfRedemptions_21 : decode cX1_baseOfRedemptions 21 = .ok (.astore 5, 2) := by decide +kernel
theorem dX1_baseOfRedemptions_23 : decode cX1_baseOfRedemptions 23 = .ok (.aload 5, 2) := by decide +kernel
theorem dX1_baseOfRedemptions_25 : decode cX1_baseOfRedemptions 25 = .ok (.getfield 64, 3) := by decide +kernel
theorem dX1_baseOfRedemptions_28 : decode cX1_baseOfRedemptions 28 = .ok (.ifCond .eq 28, 3) := by decide +kernel
theorem dX1_baseOfRedemptions_31 : decode cX1_baseOfRedemptions 31 = .ok (.aload_n 0, 1) := by decide +kernel
theorem dX1_baseOfRedemptions_32 : decode cX1_baseOfRedemptions 32 = .ok (.aload_n 1, 1) := by decide +kernel
theorem dX1_baseOfRedemptions_33 : decode cX1_baseOfRedemptions 33 = .ok (.iconst 0, 1) := by decide +kernel
theorem dX1_baseOfRedemptions_34 : decode cX1_baseOfRedemptions 34 = .ok (.invokevirtual 87, 3) := by decide +kernel
theorem dX1_baseOfRedemptions_37 : decode cX1_baseOfRedemptions 37 = .ok (.lload_n 2, 1) := by decide +kernel
theorem dX1_baseOfRedemptions_38 : decode cX1_baseOfRedemptions 38 = .ok (.aload_n 0, 1) := by decide +kernel
theorem dX1_baseOfRedemptions_39 : decode cX1_baseOfRedemptions 39 = .ok (.aload_n 1, 1) := by decide +kernel
theorem dX1_baseOfRedemptions_40 : decode cX1_baseOfRedemptions 40 = .ok (.aload 5, 2) := by decide +kernel
theorem dX1_baseOfRedemptions_42 : decode cX1_baseOfRedemptions 42 = .ok (.getfield 73, 3) := by decide +kernel
theorem dX1_baseOfRedemptions_45 : decode cX1_baseOfRedemptions 45 = .ok (.aload 5, 2) := by decide +kernel
theorem dX1_baseOfRedemptions_47 : decode cX1_baseOfRedemptions 47 = .ok (.getfield 70, 3) := by decide +kernel
theorem dX1_baseOfRedemptions_50 : decode cX1_baseOfRedemptions 50 = .ok (.iconst 0, 1) := by decide +kernel
theorem dX1_baseOfRedemptions_51 : decode cX1_baseOfRedemptions 51 = .ok (.invokevirtual 91, 3) := by decide +kernel
theorem dX1_baseOfRedemptions_54 : decode cX1_baseOfRedemptions 54 = .ok (.ladd, 1) := by decide +kernel
theorem dX1_baseOfRedemptions_55 : decode cX1_baseOfRedemptions 55 = .ok (.lstore_n 2, 1) := by decide +kernel
theorem dX1_baseOfRedemptions_56 : decode cX1_baseOfRedemptions 56 = .ok (.iinc 4 1, 3) := by decide +kernel
theorem dX1_baseOfRedemptions_59 : decode cX1_baseOfRedemptions 59 = .ok (.goto (-54), 3) := by decide +kernel
theorem dX1_baseOfRedemptions_62 : decode cX1_baseOfRedemptions 62 = .ok (.lload_n 2, 1) := by decide +kernel
theorem dX1_baseOfRedemptions_63 : decode cX1_baseOfRedemptions 63 = .ok (.lreturn, 1) := by decide +kernel
theorem dX1_payAfterRate_0 : decode cX1_payAfterRate 0 = .ok (.aload_n 0, 1) := by decide +kernel
theorem dX1_payAfterRate_1 : decode cX1_payAfterRate 1 = .ok (.aload_n 1, 1) := by decide +kernel
theorem dX1_payAfterRate_2 : decode cX1_payAfterRate 2 = .ok (.iload_n 3, 1) := by decide +kernel
theorem dX1_payAfterRate_3 : decode cX1_payAfterRate 3 = .ok (.invokevirtual 87, 3) := by decide +kernel
theorem dX1_payAfterRate_6 : decode cX1_payAfterRate 6 = .ok (.aload_n 0, 1) := by decide +kernel
theorem dX1_payAfterRate_7 : decode cX1_payAfterRate 7 = .ok (.aload_n 1, 1) := by decide +kernel
theorem dX1_payAfterRate_8 : decode cX1_payAfterRate 8 = .ok (.iload_n 2, 1) := by decide +kernel
theorem dX1_payAfterRate_9 : decode cX1_payAfterRate 9 = .ok (.ldc2_w 95, 3) := by decide +kernel
theorem dX1_payAfterRate_12 : decode cX1_payAfterRate 12 = .ok (.iconst 1, 1) := by decide +kernel
theorem dX1_payAfterRate_13 : decode cX1_payAfterRate 13 = .ok (.invokevirtual 91, 3) := by decide +kernel
theorem dX1_payAfterRate_16 : decode cX1_payAfterRate 16 = .ok (.lreturn, 1) := by decide +kernel
theorem dX1_resetTrial_0 : decode cX1_resetTrial 0 = .ok (.iconst 0, 1) := by decide +kernel
theorem dX1_resetTrial_1 : decode cX1_resetTrial 1 = .ok (.istore_n 3, 1) := by decide +kernel
theorem dX1_resetTrial_2 : decode cX1_resetTrial 2 = .ok (.iload_n 3, 1) := by decide +kernel
theorem dX1_resetTrial_3 : decode cX1_resetTrial 3 = .ok (.aload_n 1, 1) := by decide +kernel
theorem dX1_resetTrial_4 : decode cX1_resetTrial 4 = .ok (.getfield 97, 3) := by decide +kernel
theorem dX1_resetTrial_7 : decode cX1_resetTrial 7 = .ok (.if_icmp .ge 43, 3) := by decide +kernel
theorem dX1_resetTrial_10 : decode cX1_resetTrial 10 = .ok (.aload_n 0, 1) := by decide +kernel
theorem dX1_resetTrial_11 : decode cX1_resetTrial 11 = .ok (.getfield 11, 3) := by decide +kernel
theorem dX1_resetTrial_14 : decode cX1_resetTrial 14 = .ok (.iload_n 3, 1) := by decide +kernel
theorem dX1_resetTrial_15 : decode cX1_resetTrial 15 = .ok (.aaload, 1) := by decide +kernel
theorem dX1_resetTrial_16 : decode cX1_resetTrial 16 = .ok (.aload_n 1, 1) := by decide +kernel
theorem dX1_resetTrial_17 : decode cX1_resetTrial 17 = .ok (.getfield 100, 3) := by decide +kernel
theorem dX1_resetTrial_20 : decode cX1_resetTrial 20 = .ok (.iload_n 3, 1) := by decide +kernel
theorem dX1_resetTrial_21 : decode cX1_resetTrial 21 = .ok (.aaload, 1) := by decide +kernel
theorem dX1_resetTrial_22 : decode cX1_resetTrial 22 = .ok (.invokevirtual 103, 3) := by decide +kernel
theorem dX1_resetTrial_25 : decode cX1_resetTrial 25 = .ok (.aload_n 0, 1) := by decide +kernel
theorem dX1_resetTrial_26 : decode cX1_resetTrial 26 = .ok (.getfield 11, 3) := by decide +kernel
theorem dX1_resetTrial_29 : decode cX1_resetTrial 29 = .ok (.iload_n 3, 1) := by decide +kernel
theorem dX1_resetTrial_30 : decode cX1_resetTrial 30 = .ok (.aaload, 1) := by decide +kernel
theorem dX1_resetTrial_31 : decode cX1_resetTrial 31 = .ok (.aload_n 0, 1) := by decide +kernel
theorem dX1_resetTrial_32 : decode cX1_resetTrial 32 = .ok (.getfield 11, 3) := by decide +kernel
theorem dX1_resetTrial_35 : decode cX1_resetTrial 35 = .ok (.iload_n 3, 1) := by decide +kernel
theorem dX1_resetTrial_36 : decode cX1_resetTrial 36 = .ok (.aaload, 1) := by decide +kernel
theorem dX1_resetTrial_37 : decode cX1_resetTrial 37 = .ok (.iload_n 2, 1) := by decide +kernel
theorem dX1_resetTrial_38 : decode cX1_resetTrial 38 = .ok (.invokevirtual 107, 3) := by decide +kernel
theorem dX1_resetTrial_41 : decode cX1_resetTrial 41 = .ok (.putfield 110, 3) := by decide +kernel
theorem dX1_resetTrial_44 : decode cX1_resetTrial 44 = .ok (.iinc 3 1, 3) := by decide +kernel
theorem dX1_resetTrial_47 : decode cX1_resetTrial 47 = .ok (.goto (-45), 3) := by decide +kernel
theorem dX1_resetTrial_50 : decode cX1_resetTrial 50 = .ok (.return_, 1) := by decide +kernel
theorem dX1_tryRedemption_0 : decode cX1_tryRedemption 0 = .ok (.lconst 0, 1) := by decide +kernel
theorem dX1_tryRedemption_1 : decode cX1_tryRedemption 1 = .ok (.lstore 6, 2) := by decide +kernel
theorem dX1_tryRedemption_3 : decode cX1_tryRedemption 3 = .ok (.lload_n 3, 1) := by decide +kernel
theorem dX1_tryRedemption_4 : decode cX1_tryRedemption 4 = .ok (.lstore 8, 2) := by decide +kernel
theorem dX1_tryRedemption_6 : decode cX1_tryRedemption 6 = .ok (.iconst 0, 1) := by decide +kernel
theorem dX1_tryRedemption_7 : decode cX1_tryRedemption 7 = .ok (.istore 10, 2) := by decide +kernel
theorem dX1_tryRedemption_9 : decode cX1_tryRedemption 9 = .ok (.iload 10, 2) := by decide +kernel
theorem dX1_tryRedemption_11 : decode cX1_tryRedemption 11 = .ok (.aload_n 1, 1) := by decide +kernel
theorem dX1_tryRedemption_12 : decode cX1_tryRedemption 12 = .ok (.getfield 113, 3) := by decide +kernel
theorem dX1_tryRedemption_15 : decode cX1_tryRedemption 15 = .ok (.if_icmp .ge 158, 3) := by decide +kernel
theorem dX1_tryRedemption_18 : decode cX1_tryRedemption 18 = .ok (.lload 8, 2) := by decide +kernel
theorem dX1_tryRedemption_20 : decode cX1_tryRedemption 20 = .ok (.lconst 0, 1) := by decide +kernel
theorem dX1_tryRedemption_21 : decode cX1_tryRedemption 21 = .ok (.lcmp, 1) := by decide +kernel
theorem dX1_tryRedemption_22 : decode cX1_tryRedemption 22 = .ok (.ifCond .le 151, 3) := by decide +kernel
theorem dX1_tryRedemption_25 : decode cX1_tryRedemption 25 = .ok (.aload_n 1, 1) := by decide +kernel
theorem dX1_tryRedemption_26 : decode cX1_tryRedemption 26 = .ok (.getfield 116, 3) := by decide +kernel
theorem dX1_tryRedemption_29 : decode cX1_tryRedemption 29 = .ok (.iload 10, 2) := by decide +kernel
theorem dX1_tryRedemption_31 : decode cX1_tryRedemption 31 = .ok (.aaload, 1) := by decide +kernel
theorem dX1_tryRedemption_32 : decode cX1_tryRedemption 32 = .ok (.astore 11, 2) := by decide +kernel
theorem dX1_tryRedemption_34 : decode cX1_tryRedemption 34 = .ok (.aload_n 1, 1) := by decide +kernel
theorem dX1_tryRedemption_35 : decode cX1_tryRedemption 35 = .ok (.aload 11, 2) := by decide +kernel
theorem dX1_tryRedemption_37 : decode cX1_tryRedemption 37 = .ok (.getfield 120, 3) := by decide +kernel
theorem dX1_tryRedemption_40 : decode cX1_tryRedemption 40 = .ok (.invokevirtual 124, 3) := by decide +kernel
theorem dX1_tryRedemption_43 : decode cX1_tryRedemption 43 = .ok (.istore 12, 2) := by decide +kernel
theorem dX1_tryRedemption_45 : decode cX1_tryRedemption 45 = .ok (.aload 11, 2) := by decide +kernel
theorem dX1_tryRedemption_47 : decode cX1_tryRedemption 47 = .ok (.getfield 128, 3) := by decide +kernel
theorem dX1_tryRedemption_50 : decode cX1_tryRedemption 50 = .ok (.iload_n 2, 1) := by decide +kernel
theorem dX1_tryRedemption_51 : decode cX1_tryRedemption 51 = .ok (.if_icmp .ne 116, 3) := by decide +kernel
theorem dX1_tryRedemption_54 : decode cX1_tryRedemption 54 = .ok (.iload 12, 2) := by decide +kernel
theorem dX1_tryRedemption_56 : decode cX1_tryRedemption 56 = .ok (.iconst (-1), 1) := by decide +kernel
theorem dX1_tryRedemption_57 : decode cX1_tryRedemption 57 = .ok (.if_icmp .eq 110, 3) := by decide +kernel
theorem dX1_tryRedemption_60 : decode cX1_tryRedemption 60 = .ok (.lload 8, 2) := by decide +kernel
theorem dX1_tryRedemption_62 : decode cX1_tryRedemption 62 = .ok (.aload 11, 2) := by decide +kernel
theorem dX1_tryRedemption_64 : decode cX1_tryRedemption 64 = .ok (.getfield 129, 3) := by decide +kernel
theorem dX1_tryRedemption_67 : decode cX1_tryRedemption 67 = .ok (.invokestatic 132, 3) := by decide +kernel
theorem dX1_tryRedemption_70 : decode cX1_tryRedemption 70 = .ok (.lstore 13, 2) := by decide +kernel
theorem dX1_tryRedemption_72 : decode cX1_tryRedemption 72 = .ok (.aload_n 0, 1) := by decide +kernel
theorem dX1_tryRedemption_73 : decode cX1_tryRedemption 73 = .ok (.aload_n 1, 1) := by decide +kernel
theorem dX1_tryRedemption_74 : decode cX1_tryRedemption 74 = .ok (.aload_n 0, 1) := by decide +kernel
theorem dX1_tryRedemption_75 : decode cX1_tryRedemption 75 = .ok (.getfield 11, 3) := by decide +kernel
theorem dX1_tryRedemption_78 : decode cX1_tryRedemption 78 = .ok (.iload 12, 2) := by decide +kernel
theorem dX1_tryRedemption_80 : decode cX1_tryRedemption 80 = .ok (.aaload, 1) := by decide +kernel
theorem dX1_tryRedemption_81 : decode cX1_tryRedemption 81 = .ok (.aload 11, 2) := by decide +kernel
theorem dX1_tryRedemption_83 : decode cX1_tryRedemption 83 = .ok (.lload 13, 2) := by decide +kernel
theorem dX1_tryRedemption_85 : decode cX1_tryRedemption 85 = .ok (.invokevirtual 138, 3) := by decide +kernel
theorem dX1_tryRedemption_88 : decode cX1_tryRedemption 88 = .ok (.aload_n 0, 1) := by decide +kernel
theorem dX1_tryRedemption_89 : decode cX1_tryRedemption 89 = .ok (.getfield 11, 3) := by decide +kernel
theorem dX1_tryRedemption_92 : decode cX1_tryRedemption 92 = .ok (.iload 12, 2) := by decide +kernel
theorem dX1_tryRedemption_94 : decode cX1_tryRedemption 94 = .ok (.aaload, 1) := by decide +kernel
theorem dX1_tryRedemption_95 : decode cX1_tryRedemption 95 = .ok (.dup, 1) := by decide +kernel
theorem dX1_tryRedemption_96 : decode cX1_tryRedemption 96 = .ok (.getfield 110, 3) := by decide +kernel
theorem dX1_tryRedemption_99 : decode cX1_tryRedemption 99 = .ok (.aload_n 0, 1) := by decide +kernel
theorem dX1_tryRedemption_100 : decode cX1_tryRedemption 100 = .ok (.getfield 17, 3) := by decide +kernel
theorem dX1_tryRedemption_103 : decode cX1_tryRedemption 103 = .ok (.aload_n 0, 1) := by decide +kernel
theorem dX1_tryRedemption_104 : decode cX1_tryRedemption 104 = .ok (.getfield 21, 3) := by decide +kernel
theorem dX1_tryRedemption_107 : decode cX1_tryRedemption 107 = .ok (.ladd, 1) := by decide +kernel
theorem dX1_tryRedemption_108 : decode cX1_tryRedemption 108 = .ok (.lsub, 1) := by decide +kernel
theorem dX1_tryRedemption_109 : decode cX1_tryRedemption 109 = .ok (.putfield 110, 3) := by decide +kernel
theorem dX1_tryRedemption_112 : decode cX1_tryRedemption 112 = .ok (.aload_n 0, 1) := by decide +kernel
theorem dX1_tryRedemption_113 : decode cX1_tryRedemption 113 = .ok (.getfield 11, 3) := by decide +kernel
theorem dX1_tryRedemption_116 : decode cX1_tryRedemption 116 = .ok (.iload 12, 2) := by decide +kernel
theorem dX1_tryRedemption_118 : decode cX1_tryRedemption 118 = .ok (.aaload, 1) := by decide +kernel
theorem dX1_tryRedemption_119 : decode cX1_tryRedemption 119 = .ok (.dup, 1) := by decide +kernel
theorem dX1_tryRedemption_120 : decode cX1_tryRedemption 120 = .ok (.getfield 142, 3) := by decide +kernel
theorem dX1_tryRedemption_123 : decode cX1_tryRedemption 123 = .ok (.lload 13, 2) := by decide +kernel
theorem dX1_tryRedemption_125 : decode cX1_tryRedemption 125 = .ok (.lsub, 1) := by decide +kernel
theorem dX1_tryRedemption_126 : decode cX1_tryRedemption 126 = .ok (.putfield 142, 3) := by decide +kernel
theorem dX1_tryRedemption_129 : decode cX1_tryRedemption 129 = .ok (.lload 8, 2) := by decide +kernel
theorem dX1_tryRedemption_131 : decode cX1_tryRedemption 131 = .ok (.lload 13, 2) := by decide +kernel
theorem dX1_tryRedemption_133 : decode cX1_tryRedemption 133 = .ok (.lsub, 1) := by decide +kernel
theorem dX1_tryRedemption_134 : decode cX1_tryRedemption 134 = .ok (.lstore 8, 2) := by decide +kernel
theorem dX1_tryRedemption_136 : decode cX1_tryRedemption 136 = .ok (.lload 6, 2) := by decide +kernel
theorem dX1_tryRedemption_138 : decode cX1_tryRedemption 138 = .ok (.iload 5, 2) := by decide +kernel
theorem dX1_tryRedemption_140 : decode cX1_tryRedemption 140 = .ok (.ifCond .eq 20, 3) := by decide +kernel
theorem dX1_tryRedemption_143 : decode cX1_tryRedemption 143 = .ok (.aload_n 0, 1) := by decide +kernel
theorem dX1_tryRedemption_144 : decode cX1_tryRedemption 144 = .ok (.getfield 17, 3) := by decide +kernel
theorem dX1_tryRedemption_147 : decode cX1_tryRedemption 147 = .ok (.aload_n 0, 1) := by decide +kernel
theorem dX1_tryRedemption_148 : decode cX1_tryRedemption 148 = .ok (.getfield 27, 3) := by decide +kernel
theorem dX1_tryRedemption_151 : decode cX1_tryRedemption 151 = .ok (.ladd, 1) := by decide +kernel
theorem dX1_tryRedemption_152 : decode cX1_tryRedemption 152 = .ok (.aload_n 0, 1) := by decide +kernel
theorem dX1_tryRedemption_153 : decode cX1_tryRedemption 153 = .ok (.getfield 30, 3) := by decide +kernel
theorem dX1_tryRedemption_156 : decode cX1_tryRedemption 156 = .ok (.lsub, 1) := by decide +kernel
theorem dX1_tryRedemption_157 : decode cX1_tryRedemption 157 = .ok (.goto 7, 3) := by decide +kernel
theorem dX1_tryRedemption_160 : decode cX1_tryRedemption 160 = .ok (.aload_n 0, 1) := by decide +kernel
theorem dX1_tryRedemption_161 : decode cX1_tryRedemption 161 = .ok (.getfield 17, 3) := by decide +kernel
theorem dX1_tryRedemption_164 : decode cX1_tryRedemption 164 = .ok (.ladd, 1) := by decide +kernel
theorem dX1_tryRedemption_165 : decode cX1_tryRedemption 165 = .ok (.lstore 6, 2) := by decide +kernel
theorem dX1_tryRedemption_167 : decode cX1_tryRedemption 167 = .ok (.iinc 10 1, 3) := by decide +kernel
theorem dX1_tryRedemption_170 : decode cX1_tryRedemption 170 = .ok (.goto (-161), 3) := by decide +kernel
theorem dX1_tryRedemption_173 : decode cX1_tryRedemption 173 = .ok (.lload 6, 2) := by decide +kernel
theorem dX1_tryRedemption_175 : decode cX1_tryRedemption 175 = .ok (.lreturn, 1) := by decide +kernel
theorem dX1_redeemUnits_0 : decode cX1_redeemUnits 0 = .ok (.lload_n 3, 1) := by decide +kernel
theorem dX1_redeemUnits_1 : decode cX1_redeemUnits 1 = .ok (.lstore 5, 2) := by decide +kernel
theorem dX1_redeemUnits_3 : decode cX1_redeemUnits 3 = .ok (.iconst 0, 1) := by decide +kernel
theorem dX1_redeemUnits_4 : decode cX1_redeemUnits 4 = .ok (.istore 7, 2) := by decide +kernel
theorem dX1_redeemUnits_6 : decode cX1_redeemUnits 6 = .ok (.iload 7, 2) := by decide +kernel
theorem dX1_redeemUnits_8 : decode cX1_redeemUnits 8 = .ok (.aload_n 1, 1) := by decide +kernel
theorem dX1_redeemUnits_9 : decode cX1_redeemUnits 9 = .ok (.getfield 113, 3) := by decide +kernel
theorem dX1_redeemUnits_12 : decode cX1_redeemUnits 12 = .ok (.if_icmp .ge 102, 3) := by decide +kernel
theorem dX1_redeemUnits_15 : decode cX1_redeemUnits 15 = .ok (.lload 5, 2) := by decide +kernel
theorem dX1_redeemUnits_17 : decode cX1_redeemUnits 17 = .ok (.lconst 0, 1) := by decide +kernel
theorem dX1_redeemUnits_18 : decode cX1_redeemUnits 18 = .ok (.lcmp, 1) := by decide +kernel
theorem dX1_redeemUnits_19 : decode cX1_redeemUnits 19 = .ok (.ifCond .le 95, 3) := by decide +kernel
theorem dX1_redeemUnits_22 : decode cX1_redeemUnits 22 = .ok (.aload_n 1, 1) := by decide +kernel
theorem dX1_redeemUnits_23 : decode cX1_redeemUnits 23 = .ok (.getfield 116, 3) := by decide +kernel
theorem dX1_redeemUnits_26 : decode cX1_redeemUnits 26 = .ok (.iload 7, 2) := by decide +kernel
theorem dX1_redeemUnits_28 : decode cX1_redeemUnits 28 = .ok (.aaload, 1) := by decide +kernel
theorem dX1_redeemUnits_29 : decode cX1_redeemUnits 29 = .ok (.astore 8, 2) := by decide +kernel
theorem dX1_redeemUnits_31 : decode cX1_redeemUnits 31 = .ok (.aload_n 1, 1) := by decide +kernel
theorem dX1_redeemUnits_32 : decode cX1_redeemUnits 32 = .ok (.aload 8, 2) := by decide +kernel
theorem dX1_redeemUnits_34 : decode cX1_redeemUnits 34 = .ok (.getfield 120, 3) := by decide +kernel
theorem dX1_redeemUnits_37 : decode cX1_redeemUnits 37 = .ok (.invokevirtual 124, 3) := by decide +kernel
theorem dX1_redeemUnits_40 : decode cX1_redeemUnits 40 = .ok (.istore 9, 2) := by decide +kernel
theorem dX1_redeemUnits_42 : decode cX1_redeemUnits 42 = .ok (.aload 8, 2) := by decide +kernel
theorem dX1_redeemUnits_44 : decode cX1_redeemUnits 44 = .ok (.getfield 128, 3) := by decide +kernel
theorem dX1_redeemUnits_47 : decode cX1_redeemUnits 47 = .ok (.iload_n 2, 1) := by decide +kernel
theorem dX1_redeemUnits_48 : decode cX1_redeemUnits 48 = .ok (.if_icmp .ne 60, 3) := by decide +kernel
theorem dX1_redeemUnits_51 : decode cX1_redeemUnits 51 = .ok (.iload 9, 2) := by decide +kernel
theorem dX1_redeemUnits_53 : decode cX1_redeemUnits 53 = .ok (.iconst (-1), 1) := by decide +kernel
theorem dX1_redeemUnits_54 : decode cX1_redeemUnits 54 = .ok (.if_icmp .eq 54, 3) := by decide +kernel
theorem dX1_redeemUnits_57 : decode cX1_redeemUnits 57 = .ok (.lload 5, 2) := by decide +kernel
theorem dX1_redeemUnits_59 : decode cX1_redeemUnits 59 = .ok (.aload 8, 2) := by decide +kernel
theorem dX1_redeemUnits_61 : decode cX1_redeemUnits 61 = .ok (.getfield 129, 3) := by decide +kernel
theorem dX1_redeemUnits_64 : decode cX1_redeemUnits 64 = .ok (.invokestatic 132, 3) := by decide +kernel
theorem dX1_redeemUnits_67 : decode cX1_redeemUnits 67 = .ok (.lstore 10, 2) := by decide +kernel
theorem dX1_redeemUnits_69 : decode cX1_redeemUnits 69 = .ok (.aload_n 0, 1) := by decide +kernel
theorem dX1_redeemUnits_70 : decode cX1_redeemUnits 70 = .ok (.aload_n 1, 1) := by decide +kernel
theorem dX1_redeemUnits_71 : decode cX1_redeemUnits 71 = .ok (.aload_n 1, 1) := by decide +kernel
theorem dX1_redeemUnits_72 : decode cX1_redeemUnits 72 = .ok (.getfield 100, 3) := by decide +kernel
theorem dX1_redeemUnits_75 : decode cX1_redeemUnits 75 = .ok (.iload 9, 2) := by decide +kernel
theorem dX1_redeemUnits_77 : decode cX1_redeemUnits 77 = .ok (.aaload, 1) := by decide +kernel
theorem dX1_redeemUnits_78 : decode cX1_redeemUnits 78 = .ok (.aload 8, 2) := by decide +kernel
theorem dX1_redeemUnits_80 : decode cX1_redeemUnits 80 = .ok (.lload 10, 2) := by decide +kernel
theorem dX1_redeemUnits_82 : decode cX1_redeemUnits 82 = .ok (.invokevirtual 138, 3) := by decide +kernel
theorem dX1_redeemUnits_85 : decode cX1_redeemUnits 85 = .ok (.aload_n 0, 1) := by decide +kernel
theorem dX1_redeemUnits_86 : decode cX1_redeemUnits 86 = .ok (.aload_n 1, 1) := by decide +kernel
theorem dX1_redeemUnits_87 : decode cX1_redeemUnits 87 = .ok (.aload_n 1, 1) := by decide +kernel
theorem dX1_redeemUnits_88 : decode cX1_redeemUnits 88 = .ok (.getfield 100, 3) := by decide +kernel
theorem dX1_redeemUnits_91 : decode cX1_redeemUnits 91 = .ok (.iload 9, 2) := by decide +kernel
theorem dX1_redeemUnits_93 : decode cX1_redeemUnits 93 = .ok (.aaload, 1) := by decide +kernel
theorem dX1_redeemUnits_94 : decode cX1_redeemUnits 94 = .ok (.aload 8, 2) := by decide +kernel
theorem dX1_redeemUnits_96 : decode cX1_redeemUnits 96 = .ok (.lload 10, 2) := by decide +kernel
theorem dX1_redeemUnits_98 : decode cX1_redeemUnits 98 = .ok (.invokevirtual 143, 3) := by decide +kernel
theorem dX1_redeemUnits_101 : decode cX1_redeemUnits 101 = .ok (.lload 5, 2) := by decide +kernel
theorem dX1_redeemUnits_103 : decode cX1_redeemUnits 103 = .ok (.lload 10, 2) := by decide +kernel
theorem dX1_redeemUnits_105 : decode cX1_redeemUnits 105 = .ok (.lsub, 1) := by decide +kernel
theorem dX1_redeemUnits_106 : decode cX1_redeemUnits 106 = .ok (.lstore 5, 2) := by decide +kernel
theorem dX1_redeemUnits_108 : decode cX1_redeemUnits 108 = .ok (.iinc 7 1, 3) := by decide +kernel
theorem dX1_redeemUnits_111 : decode cX1_redeemUnits 111 = .ok (.goto (-105), 3) := by decide +kernel
theorem dX1_redeemUnits_114 : decode cX1_redeemUnits 114 = .ok (.aload_n 1, 1) := by decide +kernel
theorem dX1_redeemUnits_115 : decode cX1_redeemUnits 115 = .ok (.invokevirtual 146, 3) := by decide +kernel
theorem dX1_redeemUnits_118 : decode cX1_redeemUnits 118 = .ok (.aload_n 1, 1) := by decide +kernel
theorem dX1_redeemUnits_119 : decode cX1_redeemUnits 119 = .ok (.invokevirtual 149, 3) := by decide +kernel
theorem dX1_redeemUnits_122 : decode cX1_redeemUnits 122 = .ok (.lload_n 3, 1) := by decide +kernel
theorem dX1_redeemUnits_123 : decode cX1_redeemUnits 123 = .ok (.lload 5, 2) := by decide +kernel
theorem dX1_redeemUnits_125 : decode cX1_redeemUnits 125 = .ok (.lsub, 1) := by decide +kernel
theorem dX1_redeemUnits_126 : decode cX1_redeemUnits 126 = .ok (.lreturn, 1) := by decide +kernel
theorem dX1_takeOut_0 : decode cX1_takeOut 0 = .ok (.aload_n 2, 1) := by decide +kernel
theorem dX1_takeOut_1 : decode cX1_takeOut 1 = .ok (.dup, 1) := by decide +kernel
theorem dX1_takeOut_2 : decode cX1_takeOut 2 = .ok (.getfield 110, 3) := by decide +kernel
theorem dX1_takeOut_5 : decode cX1_takeOut 5 = .ok (.aload_n 0, 1) := by decide +kernel
theorem dX1_takeOut_6 : decode cX1_takeOut 6 = .ok (.getfield 17, 3) := by decide +kernel
theorem dX1_takeOut_9 : decode cX1_takeOut 9 = .ok (.aload_n 0, 1) := by decide +kernel
theorem dX1_takeOut_10 : decode cX1_takeOut 10 = .ok (.getfield 21, 3) := by decide +kernel
theorem dX1_takeOut_13 : decode cX1_takeOut 13 = .ok (.ladd, 1) := by decide +kernel
theorem dX1_takeOut_14 : decode cX1_takeOut 14 = .ok (.lsub, 1) := by decide +kernel
theorem dX1_takeOut_15 : decode cX1_takeOut 15 = .ok (.putfield 110, 3) := by decide +kernel
theorem dX1_takeOut_18 : decode cX1_takeOut 18 = .ok (.aload_n 2, 1) := by decide +kernel
theorem dX1_takeOut_19 : decode cX1_takeOut 19 = .ok (.dup, 1) := by decide +kernel
theorem dX1_takeOut_20 : decode cX1_takeOut 20 = .ok (.getfield 142, 3) := by decide +kernel
theorem dX1_takeOut_23 : decode cX1_takeOut 23 = .ok (.lload 4, 2) := by decide +kernel
theorem dX1_takeOut_25 : decode cX1_takeOut 25 = .ok (.lsub, 1) := by decide +kernel
theorem dX1_takeOut_26 : decode cX1_takeOut 26 = .ok (.putfield 142, 3) := by decide +kernel
theorem dX1_takeOut_29 : decode cX1_takeOut 29 = .ok (.aload_n 3, 1) := by decide +kernel
theorem dX1_takeOut_30 : decode cX1_takeOut 30 = .ok (.dup, 1) := by decide +kernel
theorem dX1_takeOut_31 : decode cX1_takeOut 31 = .ok (.getfield 129, 3) := by decide +kernel
theorem dX1_takeOut_34 : decode cX1_takeOut 34 = .ok (.lload 4, 2) := by decide +kernel
theorem dX1_takeOut_36 : decode cX1_takeOut 36 = .ok (.lsub, 1) := by decide +kernel
theorem dX1_takeOut_37 : decode cX1_takeOut 37 = .ok (.putfield 129, 3) := by decide +kernel
theorem dX1_takeOut_40 : decode cX1_takeOut 40 = .ok (.aload_n 3, 1) := by decide +kernel
theorem dX1_takeOut_41 : decode cX1_takeOut 41 = .ok (.dup, 1) := by decide +kernel
theorem dX1_takeOut_42 : decode cX1_takeOut 42 = .ok (.getfield 152, 3) := by decide +kernel
theorem dX1_takeOut_45 : decode cX1_takeOut 45 = .ok (.aload_n 0, 1) := by decide +kernel
theorem dX1_takeOut_46 : decode cX1_takeOut 46 = .ok (.getfield 24, 3) := by decide +kernel
theorem dX1_takeOut_49 : decode cX1_takeOut 49 = .ok (.lsub, 1) := by decide +kernel
theorem dX1_takeOut_50 : decode cX1_takeOut 50 = .ok (.putfield 152, 3) := by decide +kernel
theorem dX1_takeOut_53 : decode cX1_takeOut 53 = .ok (.aload_n 1, 1) := by decide +kernel
theorem dX1_takeOut_54 : decode cX1_takeOut 54 = .ok (.getfield 155, 3) := by decide +kernel
theorem dX1_takeOut_57 : decode cX1_takeOut 57 = .ok (.iconst 0, 1) := by decide +kernel
theorem dX1_takeOut_58 : decode cX1_takeOut 58 = .ok (.dup2, 1) := by decide +kernel
theorem dX1_takeOut_59 : decode cX1_takeOut 59 = .ok (.laload, 1) := by decide +kernel
theorem dX1_takeOut_60 : decode cX1_takeOut 60 = .ok (.aload_n 0, 1) := by decide +kernel
theorem dX1_takeOut_61 : decode cX1_takeOut 61 = .ok (.getfield 21, 3) := by decide +kernel
theorem dX1_takeOut_64 : decode cX1_takeOut 64 = .ok (.aload_n 0, 1) := by decide +kernel
theorem dX1_takeOut_65 : decode cX1_takeOut 65 = .ok (.getfield 27, 3) := by decide +kernel
theorem dX1_takeOut_68 : decode cX1_takeOut 68 = .ok (.lsub, 1) := by decide +kernel
theorem dX1_takeOut_69 : decode cX1_takeOut 69 = .ok (.aload_n 0, 1) := by decide +kernel
theorem dX1_takeOut_70 : decode cX1_takeOut 70 = .ok (.getfield 30, 3) := by decide +kernel
theorem dX1_takeOut_73 : decode cX1_takeOut 73 = .ok (.ladd, 1) := by decide +kernel
theorem dX1_takeOut_74 : decode cX1_takeOut 74 = .ok (.ladd, 1) := by decide +kernel
theorem dX1_takeOut_75 : decode cX1_takeOut 75 = .ok (.lastore, 1) := by decide +kernel
theorem dX1_takeOut_76 : decode cX1_takeOut 76 = .ok (.aload_n 1, 1) := by decide +kernel
theorem dX1_takeOut_77 : decode cX1_takeOut 77 = .ok (.getfield 155, 3) := by decide +kernel
theorem dX1_takeOut_80 : decode cX1_takeOut 80 = .ok (.iconst 3, 1) := by decide +kernel
theorem dX1_takeOut_81 : decode cX1_takeOut 81 = .ok (.dup2, 1) := by decide +kernel
theorem dX1_takeOut_82 : decode cX1_takeOut 82 = .ok (.laload, 1) := by decide +kernel
theorem dX1_takeOut_83 : decode cX1_takeOut 83 = .ok (.aload_n 0, 1) := by decide +kernel
theorem dX1_takeOut_84 : decode cX1_takeOut 84 = .ok (.getfield 17, 3) := by decide +kernel
theorem dX1_takeOut_87 : decode cX1_takeOut 87 = .ok (.aload_n 0, 1) := by decide +kernel
theorem dX1_takeOut_88 : decode cX1_takeOut 88 = .ok (.getfield 27, 3) := by decide +kernel
theorem dX1_takeOut_91 : decode cX1_takeOut 91 = .ok (.ladd, 1) := by decide +kernel
theorem dX1_takeOut_92 : decode cX1_takeOut 92 = .ok (.aload_n 0, 1) := by decide +kernel
theorem dX1_takeOut_93 : decode cX1_takeOut 93 = .ok (.getfield 30, 3) := by decide +kernel
theorem dX1_takeOut_96 : decode cX1_takeOut 96 = .ok (.lsub, 1) := by decide +kernel
theorem dX1_takeOut_97 : decode cX1_takeOut 97 = .ok (.ladd, 1) := by decide +kernel
theorem dX1_takeOut_98 : decode cX1_takeOut 98 = .ok (.lastore, 1) := by decide +kernel
theorem dX1_takeOut_99 : decode cX1_takeOut 99 = .ok (.return_, 1) := by decide +kernel
theorem dX1_quote_0 : decode cX1_quote 0 = .ok (.aload_n 2, 1) := by decide +kernel
theorem dX1_quote_1 : decode cX1_quote 1 = .ok (.aload_n 1, 1) := by decide +kernel
theorem dX1_quote_2 : decode cX1_quote 2 = .ok (.getfield 159, 3) := by decide +kernel
theorem dX1_quote_5 : decode cX1_quote 5 = .ok (.invokevirtual 162, 3) := by decide +kernel
theorem dX1_quote_8 : decode cX1_quote 8 = .ok (.lstore 6, 2) := by decide +kernel
theorem dX1_quote_10 : decode cX1_quote 10 = .ok (.aload_n 2, 1) := by decide +kernel
theorem dX1_quote_11 : decode cX1_quote 11 = .ok (.getfield 142, 3) := by decide +kernel
theorem dX1_quote_14 : decode cX1_quote 14 = .ok (.lconst 0, 1) := by decide +kernel
theorem dX1_quote_15 : decode cX1_quote 15 = .ok (.lcmp, 1) := by decide +kernel
theorem dX1_quote_16 : decode cX1_quote 16 = .ok (.ifCond .le 16, 3) := by decide +kernel
theorem dX1_quote_19 : decode cX1_quote 19 = .ok (.aload_n 3, 1) := by decide +kernel
theorem dX1_quote_20 : decode cX1_quote 20 = .ok (.getfield 129, 3) := by decide +kernel
theorem dX1_quote_23 : decode cX1_quote 23 = .ok (.lconst 0, 1) := by decide +kernel
theorem dX1_quote_24 : decode cX1_quote 24 = .ok (.lcmp, 1) := by decide +kernel
theorem dX1_quote_25 : decode cX1_quote 25 = .ok (.ifCond .le 7, 3) := by decide +kernel
theorem dX1_quote_28 : decode cX1_quote 28 = .ok (.iconst 1, 1) := by decide +kernel
theorem dX1_quote_29 : decode cX1_quote 29 = .ok (.goto 4, 3) := by decide +kernel
theorem dX1_quote_32 : decode cX1_quote 32 = .ok (.iconst 0, 1) := by decide +kernel
theorem dX1_quote_33 : decode cX1_quote 33 = .ok (.istore 8, 2) := by decide +kernel
theorem dX1_quote_35 : decode cX1_quote 35 = .ok (.aload_n 0, 1) := by decide +kernel
theorem dX1_quote_36 : decode cX1_quote 36 = .ok (.iload 8, 2) := by decide +kernel
theorem dX1_quote_38 : decode cX1_quote 38 = .ok (.ifCond .eq 21, 3) := by decide +kernel
theorem dX1_quote_41 : decode cX1_quote 41 = .ok (.aload_n 2, 1) := by decide +kernel
theorem dX1_quote_42 : decode cX1_quote 42 = .ok (.getfield 110, 3) := by decide +kernel
theorem dX1_quote_45 : decode cX1_quote 45 = .ok (.lload 6, 2) := by decide +kernel
theorem dX1_quote_47 : decode cX1_quote 47 = .ok (.lsub, 1) := by decide +kernel
theorem dX1_quote_48 : decode cX1_quote 48 = .ok (.lload 4, 2) := by decide +kernel
theorem dX1_quote_50 : decode cX1_quote 50 = .ok (.lmul, 1) := by decide +kernel
theorem dX1_quote_51 : decode cX1_quote 51 = .ok (.aload_n 2, 1) := by decide +kernel
theorem dX1_quote_52 : decode cX1_quote 52 = .ok (.getfield 142, 3) := by decide +kernel
theorem dX1_quote_55 : decode cX1_quote 55 = .ok (.ldiv, 1) := by decide +kernel
theorem dX1_quote_56 : decode cX1_quote 56 = .ok (.goto 4, 3) := by decide +kernel
theorem dX1_quote_59 : decode cX1_quote 59 = .ok (.lconst 0, 1) := by decide +kernel
theorem dX1_quote_60 : decode cX1_quote 60 = .ok (.putfield 17, 3) := by decide +kernel
theorem dX1_quote_63 : decode cX1_quote 63 = .ok (.aload_n 0, 1) := by decide +kernel
theorem dX1_quote_64 : decode cX1_quote 64 = .ok (.iload 8, 2) := by decide +kernel
theorem dX1_quote_66 : decode cX1_quote 66 = .ok (.ifCond .eq 16, 3) := by decide +kernel
theorem dX1_quote_69 : decode cX1_quote 69 = .ok (.lload 6, 2) := by decide +kernel
theorem dX1_quote_71 : decode cX1_quote 71 = .ok (.lload 4, 2) := by decide +kernel
theorem dX1_quote_73 : decode cX1_quote 73 = .ok (.lmul, 1) := by decide +kernel
theorem dX1_quote_74 : decode cX1_quote 74 = .ok (.aload_n 2, 1) := by decide +kernel
theorem dX1_quote_75 : decode cX1_quote 75 = .ok (.getfield 142, 3) := by decide +kernel
theorem dX1_quote_78 : decode cX1_quote 78 = .ok (.ldiv, 1) := by decide +kernel
theorem dX1_quote_79 : decode cX1_quote 79 = .ok (.goto 4, 3) := by decide +kernel
theorem dX1_quote_82 : decode cX1_quote 82 = .ok (.lconst 0, 1) := by decide +kernel
theorem dX1_quote_83 : decode cX1_quote 83 = .ok (.putfield 21, 3) := by decide +kernel
theorem dX1_quote_86 : decode cX1_quote 86 = .ok (.aload_n 0, 1) := by decide +kernel
theorem dX1_quote_87 : decode cX1_quote 87 = .ok (.iload 8, 2) := by decide +kernel
theorem dX1_quote_89 : decode cX1_quote 89 = .ok (.ifCond .eq 18, 3) := by decide +kernel
theorem dX1_quote_92 : decode cX1_quote 92 = .ok (.aload_n 3, 1) := by decide +kernel
theorem dX1_quote_93 : decode cX1_quote 93 = .ok (.getfield 152, 3) := by decide +kernel
theorem dX1_quote_96 : decode cX1_quote 96 = .ok (.lload 4, 2) := by decide +kernel
theorem dX1_quote_98 : decode cX1_quote 98 = .ok (.lmul, 1) := by decide +kernel
theorem dX1_quote_99 : decode cX1_quote 99 = .ok (.aload_n 3, 1) := by decide +kernel
theorem dX1_quote_100 : decode cX1_quote 100 = .ok (.getfield 129, 3) := by decide +kernel
theorem dX1_quote_103 : decode cX1_quote 103 = .ok (.ldiv, 1) := by decide +kernel
theorem dX1_quote_104 : decode cX1_quote 104 = .ok (.goto 4, 3) := by decide +kernel
theorem dX1_quote_107 : decode cX1_quote 107 = .ok (.lconst 0, 1) := by decide +kernel
theorem dX1_quote_108 : decode cX1_quote 108 = .ok (.putfield 24, 3) := by decide +kernel
theorem dX1_quote_111 : decode cX1_quote 111 = .ok (.aload_n 0, 1) := by decide +kernel
theorem dX1_quote_112 : decode cX1_quote 112 = .ok (.aload_n 0, 1) := by decide +kernel
theorem dX1_quote_113 : decode cX1_quote 113 = .ok (.getfield 21, 3) := by decide +kernel
theorem dX1_quote_116 : decode cX1_quote 116 = .ok (.aload_n 0, 1) := by decide +kernel
theorem dX1_quote_117 : decode cX1_quote 117 = .ok (.getfield 24, 3) := by decide +kernel
theorem dX1_quote_120 : decode cX1_quote 120 = .ok (.invokestatic 132, 3) := by decide +kernel
theorem dX1_quote_123 : decode cX1_quote 123 = .ok (.putfield 27, 3) := by decide +kernel
theorem dX1_quote_126 : decode cX1_quote 126 = .ok (.aload_n 0, 1) := by decide +kernel
theorem dX1_quote_127 : decode cX1_quote 127 = .ok (.iload 8, 2) := by decide +kernel
theorem dX1_quote_129 : decode cX1_quote 129 = .ok (.ifCond .eq 38, 3) := by decide +kernel
theorem dX1_quote_132 : decode cX1_quote 132 = .ok (.aload_n 1, 1) := by decide +kernel
theorem dX1_quote_133 : decode cX1_quote 133 = .ok (.getfield 165, 3) := by decide +kernel
theorem dX1_quote_136 : decode cX1_quote 136 = .ok (.iconst 1, 1) := by decide +kernel
theorem dX1_quote_137 : decode cX1_quote 137 = .ok (.if_icmp .ne 30, 3) := by decide +kernel
theorem dX1_quote_140 : decode cX1_quote 140 = .ok (.lload 4, 2) := by decide +kernel
theorem dX1_quote_142 : decode cX1_quote 142 = .ok (.aload_n 3, 1) := by decide +kernel
theorem dX1_quote_143 : decode cX1_quote 143 = .ok (.getfield 168, 3) := by decide +kernel
theorem dX1_quote_146 : decode cX1_quote 146 = .ok (.aload_n 2, 1) := by decide +kernel
theorem dX1_quote_147 : decode cX1_quote 147 = .ok (.invokevirtual 171, 3) := by decide +kernel
theorem dX1_quote_150 : decode cX1_quote 150 = .ok (.aload_n 2, 1) := by decide +kernel
theorem dX1_quote_151 : decode cX1_quote 151 = .ok (.getfield 174, 3) := by decide +kernel
theorem dX1_quote_154 : decode cX1_quote 154 = .ok (.invokestatic 132, 3) := by decide +kernel
theorem dX1_quote_157 : decode cX1_quote 157 = .ok (.aload_n 1, 1) := by decide +kernel
theorem dX1_quote_158 : decode cX1_quote 158 = .ok (.getfield 159, 3) := by decide +kernel
theorem dX1_quote_161 : decode cX1_quote 161 = .ok (.invokestatic 177, 3) := by decide +kernel
theorem dX1_quote_164 : decode cX1_quote 164 = .ok (.goto 4, 3) := by decide +kernel
theorem dX1_quote_167 : decode cX1_quote 167 = .ok (.lconst 0, 1) := by decide +kernel
theorem dX1_quote_168 : decode cX1_quote 168 = .ok (.putfield 30, 3) := by decide +kernel
theorem dX1_quote_171 : decode cX1_quote 171 = .ok (.return_, 1) := by decide +kernel
theorem dX1_subscribeWaiting_0 : decode cX1_subscribeWaiting 0 = .ok (.aload_n 1, 1) := by decide +kernel
theorem dX1_subscribeWaiting_1 : decode cX1_subscribeWaiting 1 = .ok (.getfield 165, 3) := by decide +kernel
theorem dX1_subscribeWaiting_4 : decode cX1_subscribeWaiting 4 = .ok (.iconst 1, 1) := by decide +kernel
theorem dX1_subscribeWaiting_5 : decode cX1_subscribeWaiting 5 = .ok (.if_icmp .ne 14, 3) := by decide +kernel
theorem dX1_subscribeWaiting_8 : decode cX1_subscribeWaiting 8 = .ok (.aload_n 1, 1) := by decide +kernel
theorem dX1_subscribeWaiting_9 : decode cX1_subscribeWaiting 9 = .ok (.getfield 97, 3) := by decide +kernel
theorem dX1_subscribeWaiting_12 : decode cX1_subscribeWaiting 12 = .ok (.ifCond .le 7, 3) := by decide +kernel
theorem dX1_subscribeWaiting_15 : decode cX1_subscribeWaiting 15 = .ok (.iconst 0, 1) := by decide +kernel
theorem dX1_subscribeWaiting_16 : decode cX1_subscribeWaiting 16 = .ok (.goto 4, 3) := by decide +kernel
theorem dX1_subscribeWaiting_19 : decode cX1_subscribeWaiting 19 = .ok (.iconst (-1), 1) := by decide +kernel
theorem dX1_subscribeWaiting_20 : decode cX1_subscribeWaiting 20 = .ok (.istore_n 2, 1) := by decide +kernel
theorem dX1_subscribeWaiting_21 : decode cX1_subscribeWaiting 21 = .ok (.iconst 0, 1) := by decide +kernel
theorem dX1_subscribeWaiting_22 : decode cX1_subscribeWaiting 22 = .ok (.istore_n 3, 1) := by decide +kernel
theorem dX1_subscribeWaiting_23 : decode cX1_subscribeWaiting 23 = .ok (.iload_n 3, 1) := by decide +kernel
theorem dX1_subscribeWaiting_24 : decode cX1_subscribeWaiting 24 = .ok (.aload_n 1, 1) := by decide +kernel
theorem dX1_subscribeWaiting_25 : decode cX1_subscribeWaiting 25 = .ok (.getfield 56, 3) := by decide +kernel
theorem dX1_subscribeWaiting_28 : decode cX1_subscribeWaiting 28 = .ok (.if_icmp .ge 58, 3) := by decide +kernel
theorem dX1_subscribeWaiting_31 : decode cX1_subscribeWaiting 31 = .ok (.aload_n 1, 1) := by decide +kernel
theorem dX1_subscribeWaiting_32 : decode cX1_subscribeWaiting 32 = .ok (.getfield 60, 3) := by decide +kernel
theorem dX1_subscribeWaiting_35 : decode cX1_subscribeWaiting 35 = .ok (.iload_n 3, 1) := by decide +kernel
theorem dX1_subscribeWaiting_36 : decode cX1_subscribeWaiting 36 = .ok (.aaload, 1) := by decide +kernel
theorem dX1_subscribeWaiting_37 : decode cX1_subscribeWaiting 37 = .ok (.astore 4, 2) := by decide +kernel
theorem dX1_subscribeWaiting_39 : decode cX1_subscribeWaiting 39 = .ok (.aload 4, 2) := by decide +kernel
theorem dX1_subscribeWaiting_41 : decode cX1_subscribeWaiting 41 = .ok (.getfield 64, 3) := by decide +kernel
theorem dX1_subscribeWaiting_44 : decode cX1_subscribeWaiting 44 = .ok (.ifCond .ne 36, 3) := by decide +kernel
theorem dX1_subscribeWaiting_47 : decode cX1_subscribeWaiting 47 = .ok (.aload_n 0, 1) := by decide +kernel
theorem dX1_subscribeWaiting_48 : decode cX1_subscribeWaiting 48 = .ok (.aload_n 1, 1) := by decide +kernel
theorem dX1_subscribeWaiting_49 : decode cX1_subscribeWaiting 49 = .ok (.aload 4, 2) := by decide +kernel
theorem dX1_subscribeWaiting_51 : decode cX1_subscribeWaiting 51 = .ok (.iload_n 2, 1) := by decide +kernel
theorem dX1_subscribeWaiting_52 : decode cX1_subscribeWaiting 52 = .ok (.invokevirtual 183, 3) := by decide +kernel
theorem dX1_subscribeWaiting_55 : decode cX1_subscribeWaiting 55 = .ok (.ifCond .eq 25, 3) := by decide +kernel
theorem dX1_subscribeWaiting_58 : decode cX1_subscribeWaiting 58 = .ok (.aload 4, 2) := by decide +kernel
theorem dX1_subscribeWaiting_60 : decode cX1_subscribeWaiting 60 = .ok (.lconst 0, 1) := by decide +kernel
theorem dX1_subscribeWaiting_61 : decode cX1_subscribeWaiting 61 = .ok (.putfield 70, 3) := by decide +kernel
theorem dX1_subscribeWaiting_64 : decode cX1_subscribeWaiting 64 = .ok (.iload_n 2, 1) := by decide +kernel
theorem dX1_subscribeWaiting_65 : decode cX1_subscribeWaiting 65 = .ok (.iconst (-1), 1) := by decide +kernel
theorem dX1_subscribeWaiting_66 : decode cX1_subscribeWaiting 66 = .ok (.if_icmp .ne 12, 3) := by decide +kernel
theorem dX1_subscribeWaiting_69 : decode cX1_subscribeWaiting 69 = .ok (.aload_n 1, 1) := by decide +kernel
theorem dX1_subscribeWaiting_70 : decode cX1_subscribeWaiting 70 = .ok (.getfield 97, 3) := by decide +kernel
theorem dX1_subscribeWaiting_73 : decode cX1_subscribeWaiting 73 = .ok (.iconst 1, 1) := by decide +kernel
theorem dX1_subscribeWaiting_74 : decode cX1_subscribeWaiting 74 = .ok (.isub, 1) := by decide +kernel
theorem dX1_subscribeWaiting_75 : decode cX1_subscribeWaiting 75 = .ok (.goto 4, 3) := by decide +kernel
theorem dX1_subscribeWaiting_78 : decode cX1_subscribeWaiting 78 = .ok (.iload_n 2, 1) := by decide +kernel
theorem dX1_subscribeWaiting_79 : decode cX1_subscribeWaiting 79 = .ok (.istore_n 2, 1) := by decide +kernel
theorem dX1_subscribeWaiting_80 : decode cX1_subscribeWaiting 80 = .ok (.iinc 3 1, 3) := by decide +kernel
theorem dX1_subscribeWaiting_83 : decode cX1_subscribeWaiting 83 = .ok (.goto (-60), 3) := by decide +kernel
theorem dX1_subscribeWaiting_86 : decode cX1_subscribeWaiting 86 = .ok (.return_, 1) := by decide +kernel
theorem dX1_takeIn_0 : decode cX1_takeIn 0 = .ok (.iload_n 3, 1) := by decide +kernel
theorem dX1_takeIn_1 : decode cX1_takeIn 1 = .ok (.ifCond .lt 11, 3) := by decide +kernel
theorem dX1_takeIn_4 : decode cX1_takeIn 4 = .ok (.iload_n 3, 1) := by decide +kernel
theorem dX1_takeIn_5 : decode cX1_takeIn 5 = .ok (.aload_n 1, 1) := by decide +kernel
theorem dX1_takeIn_6 : decode cX1_takeIn 6 = .ok (.getfield 97, 3) := by decide +kernel
theorem dX1_takeIn_9 : decode cX1_takeIn 9 = .ok (.if_icmp .lt 7, 3) := by decide +kernel
theorem dX1_takeIn_12 : decode cX1_takeIn 12 = .ok (.iconst 1, 1) := by decide +kernel
theorem dX1_takeIn_13 : decode cX1_takeIn 13 = .ok (.goto 4, 3) := by decide +kernel
theorem dX1_takeIn_16 : decode cX1_takeIn 16 = .ok (.iconst 0, 1) := by decide +kernel
theorem dX1_takeIn_17 : decode cX1_takeIn 17 = .ok (.istore 4, 2) := by decide +kernel
theorem dX1_takeIn_19 : decode cX1_takeIn 19 = .ok (.iload 4, 2) := by decide +kernel
theorem dX1_takeIn_21 : decode cX1_takeIn 21 = .ok (.ifCond .ne 11, 3) := by decide +kernel
theorem dX1_takeIn_24 : decode cX1_takeIn 24 = .ok (.aload_n 1, 1) := by decide +kernel
theorem dX1_takeIn_25 : decode cX1_takeIn 25 = .ok (.getfield 165, 3) := by decide +kernel
theorem dX1_takeIn_28 : decode cX1_takeIn 28 = .ok (.iconst 1, 1) := by decide +kernel
theorem dX1_takeIn_29 : decode cX1_takeIn 29 = .ok (.if_icmp .eq 9, 3) := by decide +kernel
theorem dX1_takeIn_32 : decode cX1_takeIn 32 = .ok (.ldc2_w 187, 3) := by decide +kernel
theorem dX1_takeIn_35 : decode cX1_takeIn 35 = .ok (.goto 12, 3) := by decide +kernel
theorem dX1_takeIn_38 : decode cX1_takeIn 38 = .ok (.aload_n 1, 1) := by decide +kernel
theorem dX1_takeIn_39 : decode cX1_takeIn 39 = .ok (.getfield 100, 3) := by decide +kernel
theorem dX1_takeIn_42 : decode cX1_takeIn 42 = .ok (.iload_n 3, 1) := by decide +kernel
theorem dX1_takeIn_43 : decode cX1_takeIn 43 = .ok (.aaload, 1) := by decide +kernel
theorem dX1_takeIn_44 : decode cX1_takeIn 44 = .ok (.invokevirtual 171, 3) := by decide +kernel
theorem dX1_takeIn_47 : decode cX1_takeIn 47 = .ok (.lstore 5, 2) := by decide +kernel
theorem dX1_takeIn_49 : decode cX1_takeIn 49 = .ok (.lload 5, 2) := by decide +kernel
theorem dX1_takeIn_51 : decode cX1_takeIn 51 = .ok (.lconst 0, 1) := by decide +kernel
theorem dX1_takeIn_52 : decode cX1_takeIn 52 = .ok (.lcmp, 1) := by decide +kernel
theorem dX1_takeIn_53 : decode cX1_takeIn 53 = .ok (.ifCond .le 26, 3) := by decide +kernel
theorem dX1_takeIn_56 : decode cX1_takeIn 56 = .ok (.aload_n 1, 1) := by decide +kernel
theorem dX1_takeIn_57 : decode cX1_takeIn 57 = .ok (.getfield 113, 3) := by decide +kernel
theorem dX1_takeIn_60 : decode cX1_takeIn 60 = .ok (.bipush 40, 2) := by decide +kernel
theorem dX1_takeIn_62 : decode cX1_takeIn 62 = .ok (.if_icmp .ge 17, 3) := by decide +kernel
theorem dX1_takeIn_65 : decode cX1_takeIn 65 = .ok (.iload 4, 2) := by decide +kernel
theorem dX1_takeIn_67 : decode cX1_takeIn 67 = .ok (.ifCond .eq 14, 3) := by decide +kernel
theorem dX1_takeIn_70 : decode cX1_takeIn 70 = .ok (.aload_n 1, 1) := by decide +kernel
theorem dX1_takeIn_71 : decode cX1_takeIn 71 = .ok (.getfield 97, 3) := by decide +kernel
theorem dX1_takeIn_74 : decode cX1_takeIn 74 = .ok (.bipush 6, 2) := by decide +kernel
theorem dX1_takeIn_76 : decode cX1_takeIn 76 = .ok (.if_icmp .lt 5, 3) := by decide +kernel
theorem dX1_takeIn_79 : decode cX1_takeIn 79 = .ok (.iconst 0, 1) := by decide +kernel
theorem dX1_takeIn_80 : decode cX1_takeIn 80 = .ok (.ireturn, 1) := by decide +kernel
theorem dX1_takeIn_81 : decode cX1_takeIn 81 = .ok (.aload_n 2, 1) := by decide +kernel
theorem dX1_takeIn_82 : decode cX1_takeIn 82 = .ok (.getfield 70, 3) := by decide +kernel
theorem dX1_takeIn_85 : decode cX1_takeIn 85 = .ok (.ldc2_w 189, 3) := by decide +kernel
theorem dX1_takeIn_88 : decode cX1_takeIn 88 = .ok (.lmul, 1) := by decide +kernel
theorem dX1_takeIn_89 : decode cX1_takeIn 89 = .ok (.lload 5, 2) := by decide +kernel
theorem dX1_takeIn_91 : decode cX1_takeIn 91 = .ok (.ldiv, 1) := by decide +kernel
theorem dX1_takeIn_92 : decode cX1_takeIn 92 = .ok (.lstore 7, 2) := by decide +kernel
theorem dX1_takeIn_94 : decode cX1_takeIn 94 = .ok (.lload 7, 2) := by decide +kernel
theorem dX1_takeIn_96 : decode cX1_takeIn 96 = .ok (.lconst 1, 1) := by decide +kernel
theorem dX1_takeIn_97 : decode cX1_takeIn 97 = .ok (.lcmp, 1) := by decide +kernel
theorem dX1_takeIn_98 : decode cX1_takeIn 98 = .ok (.ifCond .lt 12, 3) := by decide +kernel
theorem dX1_takeIn_101 : decode cX1_takeIn 101 = .ok (.lload 7, 2) := by decide +kernel
theorem dX1_takeIn_103 : decode cX1_takeIn 103 = .ok (.ldc2_w 191, 3) := by decide +kernel
theorem dX1_takeIn_106 : decode cX1_takeIn 106 = .ok (.lcmp, 1) := by decide +kernel
theorem dX1_takeIn_107 : decode cX1_takeIn 107 = .ok (.ifCond .le 5, 3) := by decide +kernel
theorem dX1_takeIn_110 : decode cX1_takeIn 110 = .ok (.iconst 0, 1) := by decide +kernel
theorem dX1_takeIn_111 : decode cX1_takeIn 111 = .ok (.ireturn, 1) := by decide +kernel
theorem dX1_takeIn_112 : decode cX1_takeIn 112 = .ok (.iload 4, 2) := by decide +kernel
theorem dX1_takeIn_114 : decode cX1_takeIn 114 = .ok (.ifCond .eq 10, 3) := by decide +kernel
theorem dX1_takeIn_117 : decode cX1_takeIn 117 = .ok (.aload_n 1, 1) := by decide +kernel
theorem dX1_takeIn_118 : decode cX1_takeIn 118 = .ok (.invokevirtual 193, 3) := by decide +kernel
theorem dX1_takeIn_121 : decode cX1_takeIn 121 = .ok (.goto 9, 3) := by decide +kernel
theorem dX1_takeIn_124 : decode cX1_takeIn 124 = .ok (.aload_n 1, 1) := by decide +kernel
theorem dX1_takeIn_125 : decode cX1_takeIn 125 = .ok (.getfield 100, 3) := by decide +kernel
theorem dX1_takeIn_128 : decode cX1_takeIn 128 = .ok (.iload_n 3, 1) := by decide +kernel
theorem dX1_takeIn_129 : decode cX1_takeIn 129 = .ok (.aaload, 1) := by decide +kernel
theorem dX1_takeIn_130 : decode cX1_takeIn 130 = .ok (.astore 9, 2) := by decide +kernel
theorem dX1_takeIn_132 : decode cX1_takeIn 132 = .ok (.lload 7, 2) := by decide +kernel
theorem dX1_takeIn_134 : decode cX1_takeIn 134 = .ok (.aload 9, 2) := by decide +kernel
theorem dX1_takeIn_136 : decode cX1_takeIn 136 = .ok (.getfield 174, 3) := by decide +kernel
theorem dX1_takeIn_139 : decode cX1_takeIn 139 = .ok (.lload 5, 2) := by decide +kernel
theorem dX1_takeIn_141 : decode cX1_takeIn 141 = .ok (.aload_n 1, 1) := by decide +kernel
theorem dX1_takeIn_142 : decode cX1_takeIn 142 = .ok (.getfield 159, 3) := by decide +kernel
theorem dX1_takeIn_145 : decode cX1_takeIn 145 = .ok (.invokestatic 177, 3) := by decide +kernel
theorem dX1_takeIn_148 : decode cX1_takeIn 148 = .ok (.lstore 10, 2) := by decide +kernel
theorem dX1_takeIn_150 : decode cX1_takeIn 150 = .ok (.aload_n 1, 1) := by decide +kernel
theorem dX1_takeIn_151 : decode cX1_takeIn 151 = .ok (.aload_n 2, 1) := by decide +kernel
theorem dX1_takeIn_152 : decode cX1_takeIn 152 = .ok (.getfield 73, 3) := by decide +kernel
theorem dX1_takeIn_155 : decode cX1_takeIn 155 = .ok (.aload 9, 2) := by decide +kernel
theorem dX1_takeIn_157 : decode cX1_takeIn 157 = .ok (.getfield 197, 3) := by decide +kernel
theorem dX1_takeIn_160 : decode cX1_takeIn 160 = .ok (.lload 7, 2) := by decide +kernel
theorem dX1_takeIn_162 : decode cX1_takeIn 162 = .ok (.lload 5, 2) := by decide +kernel
theorem dX1_takeIn_164 : decode cX1_takeIn 164 = .ok (.lload 10, 2) := by decide +kernel
theorem dX1_takeIn_166 : decode cX1_takeIn 166 = .ok (.invokevirtual 200, 3) := by decide +kernel
theorem dX1_takeIn_169 : decode cX1_takeIn 169 = .ok (.pop, 1) := by decide +kernel
theorem dX1_takeIn_170 : decode cX1_takeIn 170 = .ok (.aload 9, 2) := by decide +kernel
theorem dX1_takeIn_172 : decode cX1_takeIn 172 = .ok (.dup, 1) := by decide +kernel
theorem dX1_takeIn_173 : decode cX1_takeIn 173 = .ok (.getfield 110, 3) := by decide +kernel
theorem dX1_takeIn_176 : decode cX1_takeIn 176 = .ok (.aload_n 2, 1) := by decide +kernel
theorem dX1_takeIn_177 : decode cX1_takeIn 177 = .ok (.getfield 70, 3) := by decide +kernel
theorem dX1_takeIn_180 : decode cX1_takeIn 180 = .ok (.ladd, 1) := by decide +kernel
theorem dX1_takeIn_181 : decode cX1_takeIn 181 = .ok (.putfield 110, 3) := by decide +kernel
theorem dX1_takeIn_184 : decode cX1_takeIn 184 = .ok (.aload 9, 2) := by decide +kernel
theorem dX1_takeIn_186 : decode cX1_takeIn 186 = .ok (.dup, 1) := by decide +kernel
theorem dX1_takeIn_187 : decode cX1_takeIn 187 = .ok (.getfield 142, 3) := by decide +kernel
theorem dX1_takeIn_190 : decode cX1_takeIn 190 = .ok (.lload 7, 2) := by decide +kernel
theorem dX1_takeIn_192 : decode cX1_takeIn 192 = .ok (.ladd, 1) := by decide +kernel
theorem dX1_takeIn_193 : decode cX1_takeIn 193 = .ok (.putfield 142, 3) := by decide +kernel
theorem dX1_takeIn_196 : decode cX1_takeIn 196 = .ok (.aload_n 1, 1) := by decide +kernel
theorem dX1_takeIn_197 : decode cX1_takeIn 197 = .ok (.getfield 155, 3) := by decide +kernel
theorem dX1_takeIn_200 : decode cX1_takeIn 200 = .ok (.iconst 2, 1) := by decide +kernel
theorem dX1_takeIn_201 : decode cX1_takeIn 201 = .ok (.dup2, 1) := by decide +kernel
theorem dX1_takeIn_202 : decode cX1_takeIn 202 = .ok (.laload, 1) := by decide +kernel
theorem dX1_takeIn_203 : decode cX1_takeIn 203 = .ok (.aload_n 2, 1) := by decide +kernel
theorem dX1_takeIn_204 : decode cX1_takeIn 204 = .ok (.getfield 70, 3) := by decide +kernel
theorem dX1_takeIn_207 : decode cX1_takeIn 207 = .ok (.ladd, 1) := by decide +kernel
theorem dX1_takeIn_208 : decode cX1_takeIn 208 = .ok (.lastore, 1) := by decide +kernel
theorem dX1_takeIn_209 : decode cX1_takeIn 209 = .ok (.iconst 1, 1) := by decide +kernel
theorem dX1_takeIn_210 : decode cX1_takeIn 210 = .ok (.ireturn, 1) := by decide +kernel
theorem dX2_dueOn_0 : decode cX2_dueOn 0 = .ok (.lload 4, 2) := by decide +kernel
theorem dX2_dueOn_2 : decode cX2_dueOn 2 = .ok (.lload_n 2, 1) := by decide +kernel
theorem dX2_dueOn_3 : decode cX2_dueOn 3 = .ok (.lcmp, 1) := by decide +kernel
theorem dX2_dueOn_4 : decode cX2_dueOn 4 = .ok (.ifCond .le 24, 3) := by decide +kernel
theorem dX2_dueOn_7 : decode cX2_dueOn 7 = .ok (.lload_n 0, 1) := by decide +kernel
theorem dX2_dueOn_8 : decode cX2_dueOn 8 = .ok (.lload 4, 2) := by decide +kernel
theorem dX2_dueOn_10 : decode cX2_dueOn 10 = .ok (.lload_n 2, 1) := by decide +kernel
theorem dX2_dueOn_11 : decode cX2_dueOn 11 = .ok (.lsub, 1) := by decide +kernel
theorem dX2_dueOn_12 : decode cX2_dueOn 12 = .ok (.lmul, 1) := by decide +kernel
theorem dX2_dueOn_13 : decode cX2_dueOn 13 = .ok (.iload 6, 2) := by decide +kernel
theorem dX2_dueOn_15 : decode cX2_dueOn 15 = .ok (.i2l, 1) := by decide +kernel
theorem dX2_dueOn_16 : decode cX2_dueOn 16 = .ok (.lmul, 1) := by decide +kernel
theorem dX2_dueOn_17 : decode cX2_dueOn 17 = .ok (.ldc2_w 9, 3) := by decide +kernel
theorem dX2_dueOn_20 : decode cX2_dueOn 20 = .ok (.ldiv, 1) := by decide +kernel
theorem dX2_dueOn_21 : decode cX2_dueOn 21 = .ok (.ldc2_w 11, 3) := by decide +kernel
theorem dX2_dueOn_24 : decode cX2_dueOn 24 = .ok (.ldiv, 1) := by decide +kernel
theorem dX2_dueOn_25 : decode cX2_dueOn 25 = .ok (.goto 4, 3) := by decide +kernel
theorem dX2_dueOn_28 : decode cX2_dueOn 28 = .ok (.lconst 0, 1) := by decide +kernel
theorem dX2_dueOn_29 : decode cX2_dueOn 29 = .ok (.lreturn, 1) := by decide +kernel
theorem dX2_earningFault_0 : decode cX2_earningFault 0 = .ok (.iload_n 1, 1) := by decide +kernel
theorem dX2_earningFault_1 : decode cX2_earningFault 1 = .ok (.sipush (-9000), 3) := by decide +kernel
theorem dX2_earningFault_4 : decode cX2_earningFault 4 = .ok (.if_icmp .lt 10, 3) := by decide +kernel
theorem dX2_earningFault_7 : decode cX2_earningFault 7 = .ok (.iload_n 1, 1) := by decide +kernel
theorem dX2_earningFault_8 : decode cX2_earningFault 8 = .ok (.sipush 9999, 3) := by decide +kernel
theorem dX2_earningFault_11 : decode cX2_earningFault 11 = .ok (.if_icmp .le 5, 3) := by decide +kernel
theorem dX2_earningFault_14 : decode cX2_earningFault 14 = .ok (.iconst 2, 1) := by decide +kernel
theorem dX2_earningFault_15 : decode cX2_earningFault 15 = .ok (.ireturn, 1) := by decide +kernel
theorem dX2_earningFault_16 : decode cX2_earningFault 16 = .ok (.iconst 0, 1) := by decide +kernel
theorem dX2_earningFault_17 : decode cX2_earningFault 17 = .ok (.istore_n 2, 1) := by decide +kernel
theorem dX2_earningFault_18 : decode cX2_earningFault 18 = .ok (.iload_n 2, 1) := by decide +kernel
theorem dX2_earningFault_19 : decode cX2_earningFault 19 = .ok (.aload_n 0, 1) := by decide +kernel
theorem dX2_earningFault_20 : decode cX2_earningFault 20 = .ok (.getfield 13, 3) := by decide +kernel
theorem dX2_earningFault_23 : decode cX2_earningFault 23 = .ok (.if_icmp .ge 51, 3) := by decide +kernel
theorem dX2_earningFault_26 : decode cX2_earningFault 26 = .ok (.iload_n 1, 1) := by decide +kernel
theorem dX2_earningFault_27 : decode cX2_earningFault 27 = .ok (.ifCond .le 47, 3) := by decide +kernel
theorem dX2_earningFault_30 : decode cX2_earningFault 30 = .ok (.aload_n 0, 1) := by decide +kernel
theorem dX2_earningFault_31 : decode cX2_earningFault 31 = .ok (.getfield 19, 3) := by decide +kernel
theorem dX2_earningFault_34 : decode cX2_earningFault 34 = .ok (.iload_n 2, 1) := by decide +kernel
theorem dX2_earningFault_35 : decode cX2_earningFault 35 = .ok (.aaload, 1) := by decide +kernel
theorem dX2_earningFault_36 : decode cX2_earningFault 36 = .ok (.iload_n 1, 1) := by decide +kernel
theorem dX2_earningFault_37 : decode cX2_earningFault 37 = .ok (.invokevirtual 23, 3) := by decide +kernel
theorem dX2_earningFault_40 : decode cX2_earningFault 40 = .ok (.lstore_n 3, 1) := by decide +kernel
theorem dX2_earningFault_41 : decode cX2_earningFault 41 = .ok (.lload_n 3, 1) := by decide +kernel
theorem dX2_earningFault_42 : decode cX2_earningFault 42 = .ok (.ldc2_w 29, 3) := by decide +kernel
theorem dX2_earningFault_45 : decode cX2_earningFault 45 = .ok (.lcmp, 1) := by decide +kernel
theorem dX2_earningFault_46 : decode cX2_earningFault 46 = .ok (.ifCond .gt 20, 3) := by decide +kernel
theorem dX2_earningFault_49 : decode cX2_earningFault 49 = .ok (.aload_n 0, 1) := by decide +kernel
theorem dX2_earningFault_50 : decode cX2_earningFault 50 = .ok (.getfield 19, 3) := by decide +kernel
theorem dX2_earningFault_53 : decode cX2_earningFault 53 = .ok (.iload_n 2, 1) := by decide +kernel
theorem dX2_earningFault_54 : decode cX2_earningFault 54 = .ok (.aaload, 1) := by decide +kernel
theorem dX2_earningFault_55 : decode cX2_earningFault 55 = .ok (.lload_n 3, 1) := by decide +kernel
theorem dX2_earningFault_56 : decode cX2_earningFault 56 = .ok (.invokevirtual 31, 3) := by decide +kernel
theorem dX2_earningFault_59 : decode cX2_earningFault 59 = .ok (.ldc2_w 35, 3) := by decide +kernel
theorem dX2_earningFault_62 : decode cX2_earningFault 62 = .ok (.lcmp, 1) := by decide +kernel
theorem dX2_earningFault_63 : decode cX2_earningFault 63 = .ok (.ifCond .le 5, 3) := by decide +kernel
theorem dX2_earningFault_66 : decode cX2_earningFault 66 = .ok (.iconst 3, 1) := by decide +kernel
theorem dX2_earningFault_67 : decode cX2_earningFault 67 = .ok (.ireturn, 1) := by decide +kernel
theorem dX2_earningFault_68 : decode cX2_earningFault 68 = .ok (.iinc 2 1, 3) := by decide +kernel
theorem dX2_earningFault_71 : decode cX2_earningFault 71 = .ok (.goto (-53), 3) := by decide +kernel
theorem dX2_earningFault_74 : decode cX2_earningFault 74 = .ok (.iconst 0, 1) := by decide +kernel
theorem dX2_earningFault_75 : decode cX2_earningFault 75 = .ok (.ireturn, 1) := by decide +kernel
theorem dX2_earnRate_0 : decode cX2_earnRate 0 = .ok (.lconst 0, 1) := by decide +kernel
theorem dX2_earnRate_1 : decode cX2_earnRate 1 = .ok (.lstore_n 2, 1) := by decide +kernel
theorem dX2_earnRate_2 : decode cX2_earnRate 2 = .ok (.iconst 0, 1) := by decide +kernel
theorem dX2_earnRate_3 : decode cX2_earnRate 3 = .ok (.istore 4, 2) := by decide +kernel
theorem dX2_earnRate_5 : decode cX2_earnRate 5 = .ok (.iload 4, 2) := by decide +kernel
theorem dX2_earnRate_7 : decode cX2_earnRate 7 = .ok (.aload_n 0, 1) := by decide +kernel
theorem dX2_earnRate_8 : decode cX2_earnRate 8 = .ok (.getfield 13, 3) := by decide +kernel
theorem dX2_earnRate_11 : decode cX2_earnRate 11 = .ok (.if_icmp .ge 50, 3) := by decide +kernel
theorem dX2_earnRate_14 : decode cX2_earnRate 14 = .ok (.aload_n 0, 1) := by decide +kernel
theorem dX2_earnRate_15 : decode cX2_earnRate 15 = .ok (.getfield 19, 3) := by decide +kernel
theorem dX2_earnRate_18 : decode cX2_earnRate 18 = .ok (.iload 4, 2) := by decide +kernel
theorem dX2_earnRate_20 : decode cX2_earnRate 20 = .ok (.aaload, 1) := by decide +kernel
theorem dX2_earnRate_21 : decode cX2_earnRate 21 = .ok (.iload_n 1, 1) := by decide +kernel
theorem dX2_earnRate_22 : decode cX2_earnRate 22 = .ok (.invokevirtual 23, 3) := by decide +kernel
theorem dX2_earnRate_25 : decode cX2_earnRate 25 = .ok (.lstore 5, 2) := by decide +kernel
theorem dX2_earnRate_27 : decode cX2_earnRate 27 = .ok (.lload_n 2, 1) := by decide +kernel
theorem dX2_earnRate_28 : decode cX2_earnRate 28 = .ok (.lload 5, 2) := by decide +kernel
theorem dX2_earnRate_30 : decode cX2_earnRate 30 = .ok (.aload_n 0, 1) := by decide +kernel
theorem dX2_earnRate_31 : decode cX2_earnRate 31 = .ok (.getfield 19, 3) := by decide +kernel
theorem dX2_earnRate_34 : decode cX2_earnRate 34 = .ok (.iload 4, 2) := by decide +kernel
theorem dX2_earnRate_36 : decode cX2_earnRate 36 = .ok (.aaload, 1) := by decide +kernel
theorem dX2_earnRate_37 : decode cX2_earnRate 37 = .ok (.getfield 37, 3) := by decide +kernel
theorem dX2_earnRate_40 : decode cX2_earnRate 40 = .ok (.lsub, 1) := by decide +kernel
theorem dX2_earnRate_41 : decode cX2_earnRate 41 = .ok (.ladd, 1) := by decide +kernel
theorem dX2_earnRate_42 : decode cX2_earnRate 42 = .ok (.lstore_n 2, 1) := by decide +kernel
theorem dX2_earnRate_43 : decode cX2_earnRate 43 = .ok (.aload_n 0, 1) := by decide +kernel
theorem dX2_earnRate_44 : decode cX2_earnRate 44 = .ok (.getfield 19, 3) := by decide +kernel
theorem dX2_earnRate_47 : decode cX2_earnRate 47 = .ok (.iload 4, 2) := by decide +kernel
theorem dX2_earnRate_49 : decode cX2_earnRate 49 = .ok (.aaload, 1) := by decide +kernel
theorem dX2_earnRate_50 : decode cX2_earnRate 50 = .ok (.lload 5, 2) := by decide +kernel
theorem dX2_earnRate_52 : decode cX2_earnRate 52 = .ok (.putfield 37, 3) := by decide +kernel
theorem dX2_earnRate_55 : decode cX2_earnRate 55 = .ok (.iinc 4 1, 3) := by decide +kernel
theorem dX2_earnRate_58 : decode cX2_earnRate 58 = .ok (.goto (-53), 3) := by decide +kernel
theorem dX2_earnRate_61 : decode cX2_earnRate 61 = .ok (.aload_n 0, 1) := by decide +kernel
theorem dX2_earnRate_62 : decode cX2_earnRate 62 = .ok (.getfield 41, 3) := by decide +kernel
theorem dX2_earnRate_65 : decode cX2_earnRate 65 = .ok (.iconst 4, 1) := by decide +kernel
theorem dX2_earnRate_66 : decode cX2_earnRate 66 = .ok (.dup2, 1) := by decide +kernel
theorem dX2_earnRate_67 : decode cX2_earnRate 67 = .ok (.laload, 1) := by decide +kernel
theorem dX2_earnRate_68 : decode cX2_earnRate 68 = .ok (.lload_n 2, 1) := by decide +kernel
theorem dX2_earnRate_69 : decode cX2_earnRate 69 = .ok (.ladd, 1) := by decide +kernel
theorem dX2_earnRate_70 : decode cX2_earnRate 70 = .ok (.lastore, 1) := by decide +kernel
theorem dX2_earnRate_71 : decode cX2_earnRate 71 = .ok (.lload_n 2, 1) := by decide +kernel
theorem dX2_earnRate_72 : decode cX2_earnRate 72 = .ok (.lreturn, 1) := by decide +kernel
theorem dX2_passingFault_0 : decode cX2_passingFault 0 = .ok (.iload_n 0, 1) := by decide +kernel
theorem dX2_passingFault_1 : decode cX2_passingFault 1 = .ok (.iconst 1, 1) := by decide +kernel
theorem dX2_passingFault_2 : decode cX2_passingFault 2 = .ok (.if_icmp .lt 10, 3) := by decide +kernel
theorem dX2_passingFault_5 : decode cX2_passingFault 5 = .ok (.iload_n 0, 1) := by decide +kernel
theorem dX2_passingFault_6 : decode cX2_passingFault 6 = .ok (.sipush 400, 3) := by decide +kernel
theorem dX2_passingFault_9 : decode cX2_passingFault 9 = .ok (.if_icmp .le 7, 3) := by decide +kernel
theorem dX2_passingFault_12 : decode cX2_passingFault 12 = .ok (.iconst 2, 1) := by decide +kernel
theorem dX2_passingFault_13 : decode cX2_passingFault 13 = .ok (.goto 4, 3) := by decide +kernel
theorem dX2_passingFault_16 : decode cX2_passingFault 16 = .ok (.iconst 0, 1) := by decide +kernel
theorem dX2_passingFault_17 : decode cX2_passingFault 17 = .ok (.ireturn, 1) := by decide +kernel
theorem dX2_chargeDays_0 : decode cX2_chargeDays 0 = .ok (.lconst 0, 1) := by decide +kernel
theorem dX2_chargeDays_1 : decode cX2_chargeDays 1 = .ok (.lstore_n 2, 1) := by decide +kernel
theorem dX2_chargeDays_2 : decode cX2_chargeDays 2 = .ok (.iconst 0, 1) := by decide +kernel
theorem dX2_chargeDays_3 : decode cX2_chargeDays 3 = .ok (.istore 4, 2) := by decide +kernel
theorem dX2_chargeDays_5 : decode cX2_chargeDays 5 = .ok (.iload 4, 2) := by decide +kernel
theorem dX2_chargeDays_7 : decode cX2_chargeDays 7 = .ok (.iload_n 1, 1) := by decide +kernel
theorem dX2_chargeDays_8 : decode cX2_chargeDays 8 = .ok (.if_icmp .ge 81, 3) := by decide +kernel
theorem dX2_chargeDays_11 : decode cX2_chargeDays 11 = .ok (.iconst 0, 1) := by decide +kernel
theorem dX2_chargeDays_12 : decode cX2_chargeDays 12 = .ok (.istore 5, 2) := by decide +kernel
theorem dX2_chargeDays_14 : decode cX2_chargeDays 14 = .ok (.iload 5, 2) := by decide +kernel
theorem dX2_chargeDays_16 : decode cX2_chargeDays 16 = .ok (.aload_n 0, 1) := by decide +kernel
theorem dX2_chargeDays_17 : decode cX2_chargeDays 17 = .ok (.getfield 13, 3) := by decide +kernel
theorem dX2_chargeDays_20 : decode cX2_chargeDays 20 = .ok (.if_icmp .ge 53, 3) := by decide +kernel
theorem dX2_chargeDays_23 : decode cX2_chargeDays 23 = .ok (.aload_n 0, 1) := by decide +kernel
theorem dX2_chargeDays_24 : decode cX2_chargeDays 24 = .ok (.getfield 19, 3) := by decide +kernel
theorem dX2_chargeDays_27 : decode cX2_chargeDays 27 = .ok (.iload 5, 2) := by decide +kernel
theorem dX2_chargeDays_29 : decode cX2_chargeDays 29 = .ok (.aaload, 1) := by decide +kernel
theorem dX2_chargeDays_30 : decode cX2_chargeDays 30 = .ok (.getfield 37, 3) := by decide +kernel
theorem dX2_chargeDays_33 : decode cX2_chargeDays 33 = .ok (.aload_n 0, 1) := by decide +kernel
theorem dX2_chargeDays_34 : decode cX2_chargeDays 34 = .ok (.getfield 45, 3) := by decide +kernel
theorem dX2_chargeDays_37 : decode cX2_chargeDays 37 = .ok (.i2l, 1) := by decide +kernel
theorem dX2_chargeDays_38 : decode cX2_chargeDays 38 = .ok (.lmul, 1) := by decide +kernel
theorem dX2_chargeDays_39 : decode cX2_chargeDays 39 = .ok (.ldc2_w 48, 3) := by decide +kernel
theorem dX2_chargeDays_42 : decode cX2_chargeDays 42 = .ok (.ldiv, 1) := by decide +kernel
theorem dX2_chargeDays_43 : decode cX2_chargeDays 43 = .ok (.lstore 6, 2) := by decide +kernel
theorem dX2_chargeDays_45 : decode cX2_chargeDays 45 = .ok (.aload_n 0, 1) := by decide +kernel
theorem dX2_chargeDays_46 : decode cX2_chargeDays 46 = .ok (.getfield 19, 3) := by decide +kernel
theorem dX2_chargeDays_49 : decode cX2_chargeDays 49 = .ok (.iload 5, 2) := by decide +kernel
theorem dX2_chargeDays_51 : decode cX2_chargeDays 51 = .ok (.aaload, 1) := by decide +kernel
theorem dX2_chargeDays_52 : decode cX2_chargeDays 52 = .ok (.dup, 1) := by decide +kernel
theorem dX2_chargeDays_53 : decode cX2_chargeDays 53 = .ok (.getfield 37, 3) := by decide +kernel
theorem dX2_chargeDays_56 : decode cX2_chargeDays 56 = .ok (.lload 6, 2) := by decide +kernel
theorem dX2_chargeDays_58 : decode cX2_chargeDays 58 = .ok (.lsub, 1) := by decide +kernel
theorem dX2_chargeDays_59 : decode cX2_chargeDays 59 = .ok (.putfield 37, 3) := by decide +kernel
theorem dX2_chargeDays_62 : decode cX2_chargeDays 62 = .ok (.lload_n 2, 1) := by decide +kernel
theorem dX2_chargeDays_63 : decode cX2_chargeDays 63 = .ok (.lload 6, 2) := by decide +kernel
theorem dX2_chargeDays_65 : decode cX2_chargeDays 65 = .ok (.ladd, 1) := by decide +kernel
theorem dX2_chargeDays_66 : decode cX2_chargeDays 66 = .ok (.lstore_n 2, 1) := by decide +kernel
theorem dX2_chargeDays_67 : decode cX2_chargeDays 67 = .ok (.iinc 5 1, 3) := by decide +kernel
theorem dX2_chargeDays_70 : decode cX2_chargeDays 70 = .ok (.goto (-56), 3) := by decide +kernel
theorem dX2_chargeDays_73 : decode cX2_chargeDays 73 = .ok (.aload_n 0, 1) := by decide +kernel
theorem dX2_chargeDays_74 : decode cX2_chargeDays 74 = .ok (.dup, 1) := by decide +kernel
theorem dX2_chargeDays_75 : decode cX2_chargeDays 75 = .ok (.getfield 50, 3) := by decide +kernel
theorem dX2_chargeDays_78 : decode cX2_chargeDays 78 = .ok (.iconst 1, 1) := by decide +kernel
theorem dX2_chargeDays_79 : decode cX2_chargeDays 79 = .ok (.iadd, 1) := by decide +kernel
theorem dX2_chargeDays_80 : decode cX2_chargeDays 80 = .ok (.putfield 50, 3) := by decide +kernel
theorem dX2_chargeDays_83 : decode cX2_chargeDays 83 = .ok (.iinc 4 1, 3) := by decide +kernel
theorem dX2_chargeDays_86 : decode cX2_chargeDays 86 = .ok (.goto (-81), 3) := by decide +kernel
theorem dX2_chargeDays_89 : decode cX2_chargeDays 89 = .ok (.aload_n 0, 1) := by decide +kernel
theorem dX2_chargeDays_90 : decode cX2_chargeDays 90 = .ok (.getfield 41, 3) := by decide +kernel
theorem dX2_chargeDays_93 : decode cX2_chargeDays 93 = .ok (.iconst 0, 1) := by decide +kernel
theorem dX2_chargeDays_94 : decode cX2_chargeDays 94 = .ok (.dup2, 1) := by decide +kernel
theorem dX2_chargeDays_95 : decode cX2_chargeDays 95 = .ok (.laload, 1) := by decide +kernel
theorem dX2_chargeDays_96 : decode cX2_chargeDays 96 = .ok (.lload_n 2, 1) := by decide +kernel
theorem dX2_chargeDays_97 : decode cX2_chargeDays 97 = .ok (.ladd, 1) := by decide +kernel
theorem dX2_chargeDays_98 : decode cX2_chargeDays 98 = .ok (.lastore, 1) := by decide +kernel
theorem dX2_chargeDays_99 : decode cX2_chargeDays 99 = .ok (.aload_n 0, 1) := by decide +kernel
theorem dX2_chargeDays_100 : decode cX2_chargeDays 100 = .ok (.getfield 41, 3) := by decide +kernel
theorem dX2_chargeDays_103 : decode cX2_chargeDays 103 = .ok (.iconst 5, 1) := by decide +kernel
theorem dX2_chargeDays_104 : decode cX2_chargeDays 104 = .ok (.dup2, 1) := by decide +kernel
theorem dX2_chargeDays_105 : decode cX2_chargeDays 105 = .ok (.laload, 1) := by decide +kernel
theorem dX2_chargeDays_106 : decode cX2_chargeDays 106 = .ok (.lload_n 2, 1) := by decide +kernel
theorem dX2_chargeDays_107 : decode cX2_chargeDays 107 = .ok (.ladd, 1) := by decide +kernel
theorem dX2_chargeDays_108 : decode cX2_chargeDays 108 = .ok (.lastore, 1) := by decide +kernel
theorem dX2_chargeDays_109 : decode cX2_chargeDays 109 = .ok (.lload_n 2, 1) := by decide +kernel
theorem dX2_chargeDays_110 : decode cX2_chargeDays 110 = .ok (.lreturn, 1) := by decide +kernel
theorem dX2_settleAll_0 : decode cX2_settleAll 0 = .ok (.aload_n 0, 1) := by decide +kernel
theorem dX2_settleAll_1 : decode cX2_settleAll 1 = .ok (.getfield 41, 3) := by decide +kernel
theorem dX2_settleAll_4 : decode cX2_settleAll 4 = .ok (.iconst 0, 1) := by decide +kernel
theorem dX2_settleAll_5 : decode cX2_settleAll 5 = .ok (.laload, 1) := by decide +kernel
theorem dX2_settleAll_6 : decode cX2_settleAll 6 = .ok (.lstore_n 1, 1) := by decide +kernel
theorem dX2_settleAll_7 : decode cX2_settleAll 7 = .ok (.iconst 0, 1) := by decide +kernel
theorem dX2_settleAll_8 : decode cX2_settleAll 8 = .ok (.istore_n 3, 1) := by decide +kernel
theorem dX2_settleAll_9 : decode cX2_settleAll 9 = .ok (.iload_n 3, 1) := by decide +kernel
theorem dX2_settleAll_10 : decode cX2_settleAll 10 = .ok (.aload_n 0, 1) := by decide +kernel
theorem dX2_settleAll_11 : decode cX2_settleAll 11 = .ok (.getfield 13, 3) := by decide +kernel
theorem dX2_settleAll_14 : decode cX2_settleAll 14 = .ok (.if_icmp .ge 19, 3) := by decide +kernel
theorem dX2_settleAll_17 : decode cX2_settleAll 17 = .ok (.aload_n 0, 1) := by decide +kernel
theorem dX2_settleAll_18 : decode cX2_settleAll 18 = .ok (.aload_n 0, 1) := by decide +kernel
theorem dX2_settleAll_19 : decode cX2_settleAll 19 = .ok (.getfield 19, 3) := by decide +kernel
theorem dX2_settleAll_22 : decode cX2_settleAll 22 = .ok (.iload_n 3, 1) := by decide +kernel
theorem dX2_settleAll_23 : decode cX2_settleAll 23 = .ok (.aaload, 1) := by decide +kernel
theorem dX2_settleAll_24 : decode cX2_settleAll 24 = .ok (.invokestatic 53, 3) := by decide +kernel
theorem dX2_settleAll_27 : decode cX2_settleAll 27 = .ok (.iinc 3 1, 3) := by decide +kernel
theorem dX2_settleAll_30 : decode cX2_settleAll 30 = .ok (.goto (-21), 3) := by decide +kernel
theorem dX2_settleAll_33 : decode cX2_settleAll 33 = .ok (.aload_n 0, 1) := by decide +kernel
theorem dX2_settleAll_34 : decode cX2_settleAll 34 = .ok (.invokevirtual 59, 3) := by decide +kernel
theorem dX2_settleAll_37 : decode cX2_settleAll 37 = .ok (.aload_n 0, 1) := by decide +kernel
theorem dX2_settleAll_38 : decode cX2_settleAll 38 = .ok (.invokevirtual 62, 3) := by decide +kernel
theorem dX2_settleAll_41 : decode cX2_settleAll 41 = .ok (.aload_n 0, 1) := by decide +kernel
theorem dX2_settleAll_42 : decode cX2_settleAll 42 = .ok (.getfield 41, 3) := by decide +kernel
theorem dX2_settleAll_45 : decode cX2_settleAll 45 = .ok (.iconst 0, 1) := by decide +kernel
theorem dX2_settleAll_46 : decode cX2_settleAll 46 = .ok (.laload, 1) := by decide +kernel
theorem dX2_settleAll_47 : decode cX2_settleAll 47 = .ok (.lload_n 1, 1) := by decide +kernel
theorem dX2_settleAll_48 : decode cX2_settleAll 48 = .ok (.lsub, 1) := by decide +kernel
theorem dX2_settleAll_49 : decode cX2_settleAll 49 = .ok (.lreturn, 1) := by decide +kernel
theorem dX2_settleSeries_0 : decode cX2_settleSeries 0 = .ok (.aload_n 1, 1) := by decide +kernel
theorem dX2_settleSeries_1 : decode cX2_settleSeries 1 = .ok (.invokevirtual 65, 3) := by decide +kernel
theorem dX2_settleSeries_4 : decode cX2_settleSeries 4 = .ok (.lstore_n 2, 1) := by decide +kernel
theorem dX2_settleSeries_5 : decode cX2_settleSeries 5 = .ok (.aload_n 1, 1) := by decide +kernel
theorem dX2_settleSeries_6 : decode cX2_settleSeries 6 = .ok (.aload_n 0, 1) := by decide +kernel
theorem dX2_settleSeries_7 : decode cX2_settleSeries 7 = .ok (.getfield 69, 3) := by decide +kernel
theorem dX2_settleSeries_10 : decode cX2_settleSeries 10 = .ok (.invokevirtual 72, 3) := by decide +kernel
theorem dX2_settleSeries_13 : decode cX2_settleSeries 13 = .ok (.lstore 4, 2) := by decide +kernel
theorem dX2_settleSeries_15 : decode cX2_settleSeries 15 = .ok (.aload_n 1, 1) := by decide +kernel
theorem dX2_settleSeries_16 : decode cX2_settleSeries 16 = .ok (.dup, 1) := by decide +kernel
theorem dX2_settleSeries_17 : decode cX2_settleSeries 17 = .ok (.getfield 37, 3) := by decide +kernel
theorem dX2_settleSeries_20 : decode cX2_settleSeries 20 = .ok (.lload 4, 2) := by decide +kernel
theorem dX2_settleSeries_22 : decode cX2_settleSeries 22 = .ok (.lsub, 1) := by decide +kernel
theorem dX2_settleSeries_23 : decode cX2_settleSeries 23 = .ok (.putfield 37, 3) := by decide +kernel
theorem dX2_settleSeries_26 : decode cX2_settleSeries 26 = .ok (.aload_n 0, 1) := by decide +kernel
theorem dX2_settleSeries_27 : decode cX2_settleSeries 27 = .ok (.getfield 41, 3) := by decide +kernel
theorem dX2_settleSeries_30 : decode cX2_settleSeries 30 = .ok (.iconst 0, 1) := by decide +kernel
theorem dX2_settleSeries_31 : decode cX2_settleSeries 31 = .ok (.dup2, 1) := by decide +kernel
theorem dX2_settleSeries_32 : decode cX2_settleSeries 32 = .ok (.laload, 1) := by decide +kernel
theorem dX2_settleSeries_33 : decode cX2_settleSeries 33 = .ok (.lload 4, 2) := by decide +kernel
theorem dX2_settleSeries_35 : decode cX2_settleSeries 35 = .ok (.ladd, 1) := by decide +kernel
theorem dX2_settleSeries_36 : decode cX2_settleSeries 36 = .ok (.lastore, 1) := by decide +kernel
theorem dX2_settleSeries_37 : decode cX2_settleSeries 37 = .ok (.aload_n 1, 1) := by decide +kernel
theorem dX2_settleSeries_38 : decode cX2_settleSeries 38 = .ok (.invokevirtual 65, 3) := by decide +kernel
theorem dX2_settleSeries_41 : decode cX2_settleSeries 41 = .ok (.lstore 6, 2) := by decide +kernel
theorem dX2_settleSeries_43 : decode cX2_settleSeries 43 = .ok (.iconst 0, 1) := by decide +kernel
theorem dX2_settleSeries_44 : decode cX2_settleSeries 44 = .ok (.istore 8, 2) := by decide +kernel
theorem dX2_settleSeries_46 : decode cX2_settleSeries 46 = .ok (.iload 8, 2) := by decide +kernel
theorem dX2_settleSeries_48 : decode cX2_settleSeries 48 = .ok (.aload_n 0, 1) := by decide +kernel
theorem dX2_settleSeries_49 : decode cX2_settleSeries 49 = .ok (.getfield 75, 3) := by decide +kernel
theorem dX2_settleSeries_52 : decode cX2_settleSeries 52 = .ok (.if_icmp .ge 71, 3) := by decide +kernel
theorem dX2_settleSeries_55 : decode cX2_settleSeries 55 = .ok (.aload_n 0, 1) := by decide +kernel
theorem dX2_settleSeries_56 : decode cX2_settleSeries 56 = .ok (.getfield 78, 3) := by decide +kernel
theorem dX2_settleSeries_59 : decode cX2_settleSeries 59 = .ok (.iload 8, 2) := by decide +kernel
theorem dX2_settleSeries_61 : decode cX2_settleSeries 61 = .ok (.aaload, 1) := by decide +kernel
theorem dX2_settleSeries_62 : decode cX2_settleSeries 62 = .ok (.astore 9, 2) := by decide +kernel
theorem dX2_settleSeries_64 : decode cX2_settleSeries 64 = .ok (.aload 9, 2) := by decide +kernel
theorem dX2_settleSeries_66 : decode cX2_settleSeries 66 = .ok (.getfield 82, 3) := by decide +kernel
theorem dX2_settleSeries_69 : decode cX2_settleSeries 69 = .ok (.aload_n 1, 1) := by decide +kernel
theorem dX2_settleSeries_70 : decode cX2_settleSeries 70 = .ok (.getfield 86, 3) := by decide +kernel
theorem dX2_settleSeries_73 : decode cX2_settleSeries 73 = .ok (.if_icmp .ne 44, 3) := by decide +kernel
theorem dX2_settleSeries_76 : decode cX2_settleSeries 76 = .ok (.aload_n 0, 1) := by decide +kernel
theorem dX2_settleSeries_77 : decode cX2_settleSeries 77 = .ok (.getfield 89, 3) := by decide +kernel
theorem dX2_settleSeries_80 : decode cX2_settleSeries 80 = .ok (.iconst 1, 1) := by decide +kernel
theorem dX2_settleSeries_81 : decode cX2_settleSeries 81 = .ok (.if_icmp .ne 23, 3) := by decide +kernel
theorem dX2_settleSeries_84 : decode cX2_settleSeries 84 = .ok (.aload_n 0, 1) := by decide +kernel
theorem dX2_settleSeries_85 : decode cX2_settleSeries 85 = .ok (.aload_n 1, 1) := by decide +kernel
theorem dX2_settleSeries_86 : decode cX2_settleSeries 86 = .ok (.aload 9, 2) := by decide +kernel
theorem dX2_settleSeries_88 : decode cX2_settleSeries 88 = .ok (.lload_n 2, 1) := by decide +kernel
theorem dX2_settleSeries_89 : decode cX2_settleSeries 89 = .ok (.lload 6, 2) := by decide +kernel
theorem dX2_settleSeries_91 : decode cX2_settleSeries 91 = .ok (.invokestatic 92, 3) := by decide +kernel
theorem dX2_settleSeries_94 : decode cX2_settleSeries 94 = .ok (.aload_n 0, 1) := by decide +kernel
theorem dX2_settleSeries_95 : decode cX2_settleSeries 95 = .ok (.aload_n 1, 1) := by decide +kernel
theorem dX2_settleSeries_96 : decode cX2_settleSeries 96 = .ok (.aload 9, 2) := by decide +kernel
theorem dX2_settleSeries_98 : decode cX2_settleSeries 98 = .ok (.lload_n 2, 1) := by decide +kernel
theorem dX2_settleSeries_99 : decode cX2_settleSeries 99 = .ok (.lload 6, 2) := by decide +kernel
theorem dX2_settleSeries_101 : decode cX2_settleSeries 101 = .ok (.invokestatic 96, 3) := by decide +kernel
theorem dX2_settleSeries_104 : decode cX2_settleSeries 104 = .ok (.aload 9, 2) := by decide +kernel
theorem dX2_settleSeries_106 : decode cX2_settleSeries 106 = .ok (.lload 6, 2) := by decide +kernel
theorem dX2_settleSeries_108 : decode cX2_settleSeries 108 = .ok (.putfield 99, 3) := by decide +kernel
theorem dX2_settleSeries_111 : decode cX2_settleSeries 111 = .ok (.aload 9, 2) := by decide +kernel
theorem dX2_settleSeries_113 : decode cX2_settleSeries 113 = .ok (.lconst 0, 1) := by decide +kernel
theorem dX2_settleSeries_114 : decode cX2_settleSeries 114 = .ok (.putfield 102, 3) := by decide +kernel
theorem dX2_settleSeries_117 : decode cX2_settleSeries 117 = .ok (.iinc 8 1, 3) := by decide +kernel
theorem dX2_settleSeries_120 : decode cX2_settleSeries 120 = .ok (.goto (-74), 3) := by decide +kernel
theorem dX2_settleSeries_123 : decode cX2_settleSeries 123 = .ok (.lload 4, 2) := by decide +kernel
theorem dX2_settleSeries_125 : decode cX2_settleSeries 125 = .ok (.lconst 0, 1) := by decide +kernel
theorem dX2_settleSeries_126 : decode cX2_settleSeries 126 = .ok (.lcmp, 1) := by decide +kernel
theorem dX2_settleSeries_127 : decode cX2_settleSeries 127 = .ok (.ifCond .le 9, 3) := by decide +kernel
theorem dX2_settleSeries_130 : decode cX2_settleSeries 130 = .ok (.aload_n 1, 1) := by decide +kernel
theorem dX2_settleSeries_131 : decode cX2_settleSeries 131 = .ok (.lload 6, 2) := by decide +kernel
theorem dX2_settleSeries_133 : decode cX2_settleSeries 133 = .ok (.putfield 105, 3) := by decide +kernel
theorem dX2_settleSeries_136 : decode cX2_settleSeries 136 = .ok (.return_, 1) := by decide +kernel
theorem dX2_giveBack_0 : decode cX2_giveBack 0 = .ok (.aload_n 2, 1) := by decide +kernel
theorem dX2_giveBack_1 : decode cX2_giveBack 1 = .ok (.getfield 99, 3) := by decide +kernel
theorem dX2_giveBack_4 : decode cX2_giveBack 4 = .ok (.aload_n 1, 1) := by decide +kernel
theorem dX2_giveBack_5 : decode cX2_giveBack 5 = .ok (.getfield 105, 3) := by decide +kernel
theorem dX2_giveBack_8 : decode cX2_giveBack 8 = .ok (.lsub, 1) := by decide +kernel
theorem dX2_giveBack_9 : decode cX2_giveBack 9 = .ok (.lstore 7, 2) := by decide +kernel
theorem dX2_giveBack_11 : decode cX2_giveBack 11 = .ok (.lload 7, 2) := by decide +kernel
theorem dX2_giveBack_13 : decode cX2_giveBack 13 = .ok (.lconst 0, 1) := by decide +kernel
theorem dX2_giveBack_14 : decode cX2_giveBack 14 = .ok (.lcmp, 1) := by decide +kernel
theorem dX2_giveBack_15 : decode cX2_giveBack 15 = .ok (.ifCond .le 19, 3) := by decide +kernel
theorem dX2_giveBack_18 : decode cX2_giveBack 18 = .ok (.lload_n 3, 1) := by decide +kernel
theorem dX2_giveBack_19 : decode cX2_giveBack 19 = .ok (.aload_n 1, 1) := by decide +kernel
theorem dX2_giveBack_20 : decode cX2_giveBack 20 = .ok (.getfield 105, 3) := by decide +kernel
theorem dX2_giveBack_23 : decode cX2_giveBack 23 = .ok (.lcmp, 1) := by decide +kernel
theorem dX2_giveBack_24 : decode cX2_giveBack 24 = .ok (.ifCond .le 10, 3) := by decide +kernel
theorem dX2_giveBack_27 : decode cX2_giveBack 27 = .ok (.lload 5, 2) := by decide +kernel
theorem dX2_giveBack_29 : decode cX2_giveBack 29 = .ok (.lconst 0, 1) := by decide +kernel
theorem dX2_giveBack_30 : decode cX2_giveBack 30 = .ok (.lcmp, 1) := by decide +kernel
theorem dX2_giveBack_31 : decode cX2_giveBack 31 = .ok (.ifCond .gt 4, 3) := by decide +kernel
theorem dX2_giveBack_34 : decode cX2_giveBack 34 = .ok (.return_, 1) := by decide +kernel
theorem dX2_giveBack_35 : decode cX2_giveBack 35 = .ok (.aload_n 2, 1) := by decide +kernel
theorem dX2_giveBack_36 : decode cX2_giveBack 36 = .ok (.getfield 102, 3) := by decide +kernel
theorem dX2_giveBack_39 : decode cX2_giveBack 39 = .ok (.lload_n 3, 1) := by decide +kernel
theorem dX2_giveBack_40 : decode cX2_giveBack 40 = .ok (.aload_n 1, 1) := by decide +kernel
theorem dX2_giveBack_41 : decode cX2_giveBack 41 = .ok (.getfield 105, 3) := by decide +kernel
theorem dX2_giveBack_44 : decode cX2_giveBack 44 = .ok (.lsub, 1) := by decide +kernel
theorem dX2_giveBack_45 : decode cX2_giveBack 45 = .ok (.lload 7, 2) := by decide +kernel
theorem dX2_giveBack_47 : decode cX2_giveBack 47 = .ok (.invokestatic 108, 3) := by decide +kernel
theorem dX2_giveBack_50 : decode cX2_giveBack 50 = .ok (.lmul, 1) := by decide +kernel
theorem dX2_giveBack_51 : decode cX2_giveBack 51 = .ok (.lload 7, 2) := by decide +kernel
theorem dX2_giveBack_53 : decode cX2_giveBack 53 = .ok (.ldiv, 1) := by decide +kernel
theorem dX2_giveBack_54 : decode cX2_giveBack 54 = .ok (.lstore 9, 2) := by decide +kernel
theorem dX2_giveBack_56 : decode cX2_giveBack 56 = .ok (.lload 9, 2) := by decide +kernel
theorem dX2_giveBack_58 : decode cX2_giveBack 58 = .ok (.ldc2_w 11, 3) := by decide +kernel
theorem dX2_giveBack_61 : decode cX2_giveBack 61 = .ok (.lmul, 1) := by decide +kernel
theorem dX2_giveBack_62 : decode cX2_giveBack 62 = .ok (.lload 5, 2) := by decide +kernel
theorem dX2_giveBack_64 : decode cX2_giveBack 64 = .ok (.ldiv, 1) := by decide +kernel
theorem dX2_giveBack_65 : decode cX2_giveBack 65 = .ok (.lstore 11, 2) := by decide +kernel
theorem dX2_giveBack_67 : decode cX2_giveBack 67 = .ok (.aload_n 1, 1) := by decide +kernel
theorem dX2_giveBack_68 : decode cX2_giveBack 68 = .ok (.dup, 1) := by decide +kernel
theorem dX2_giveBack_69 : decode cX2_giveBack 69 = .ok (.getfield 37, 3) := by decide +kernel
theorem dX2_giveBack_72 : decode cX2_giveBack 72 = .ok (.lload 9, 2) := by decide +kernel
theorem dX2_giveBack_74 : decode cX2_giveBack 74 = .ok (.ladd, 1) := by decide +kernel
theorem dX2_giveBack_75 : decode cX2_giveBack 75 = .ok (.putfield 37, 3) := by decide +kernel
theorem dX2_giveBack_78 : decode cX2_giveBack 78 = .ok (.aload_n 0, 1) := by decide +kernel
theorem dX2_giveBack_79 : decode cX2_giveBack 79 = .ok (.getfield 41, 3) := by decide +kernel
theorem dX2_giveBack_82 : decode cX2_giveBack 82 = .ok (.iconst 0, 1) := by decide +kernel
theorem dX2_giveBack_83 : decode cX2_giveBack 83 = .ok (.dup2, 1) := by decide +kernel
theorem dX2_giveBack_84 : decode cX2_giveBack 84 = .ok (.laload, 1) := by decide +kernel
theorem dX2_giveBack_85 : decode cX2_giveBack 85 = .ok (.lload 9, 2) := by decide +kernel
theorem dX2_giveBack_87 : decode cX2_giveBack 87 = .ok (.lsub, 1) := by decide +kernel
theorem dX2_giveBack_88 : decode cX2_giveBack 88 = .ok (.lastore, 1) := by decide +kernel
theorem dX2_giveBack_89 : decode cX2_giveBack 89 = .ok (.aload_n 2, 1) := by decide +kernel
theorem dX2_giveBack_90 : decode cX2_giveBack 90 = .ok (.dup, 1) := by decide +kernel
theorem dX2_giveBack_91 : decode cX2_giveBack 91 = .ok (.getfield 114, 3) := by decide +kernel
theorem dX2_giveBack_94 : decode cX2_giveBack 94 = .ok (.lload 11, 2) := by decide +kernel
theorem dX2_giveBack_96 : decode cX2_giveBack 96 = .ok (.ladd, 1) := by decide +kernel
theorem dX2_giveBack_97 : decode cX2_giveBack 97 = .ok (.putfield 114, 3) := by decide +kernel
theorem dX2_giveBack_100 : decode cX2_giveBack 100 = .ok (.aload_n 1, 1) := by decide +kernel
theorem dX2_giveBack_101 : decode cX2_giveBack 101 = .ok (.dup, 1) := by decide +kernel
theorem dX2_giveBack_102 : decode cX2_giveBack 102 = .ok (.getfield 117, 3) := by decide +kernel
theorem dX2_giveBack_105 : decode cX2_giveBack 105 = .ok (.lload 11, 2) := by decide +kernel
theorem dX2_giveBack_107 : decode cX2_giveBack 107 = .ok (.ladd, 1) := by decide +kernel
theorem dX2_giveBack_108 : decode cX2_giveBack 108 = .ok (.putfield 117, 3) := by decide +kernel
theorem dX2_giveBack_111 : decode cX2_giveBack 111 = .ok (.return_, 1) := by decide +kernel
theorem dX2_takeDue_0 : decode cX2_takeDue 0 = .ok (.lload_n 3, 1) := by decide +kernel
theorem dX2_takeDue_1 : decode cX2_takeDue 1 = .ok (.aload_n 1, 1) := by decide +kernel
theorem dX2_takeDue_2 : decode cX2_takeDue 2 = .ok (.getfield 105, 3) := by decide +kernel
theorem dX2_takeDue_5 : decode cX2_takeDue 5 = .ok (.invokestatic 108, 3) := by decide +kernel
theorem dX2_takeDue_8 : decode cX2_takeDue 8 = .ok (.lstore 7, 2) := by decide +kernel
theorem dX2_takeDue_10 : decode cX2_takeDue 10 = .ok (.aload_n 2, 1) := by decide +kernel
theorem dX2_takeDue_11 : decode cX2_takeDue 11 = .ok (.getfield 99, 3) := by decide +kernel
theorem dX2_takeDue_14 : decode cX2_takeDue 14 = .ok (.lload 7, 2) := by decide +kernel
theorem dX2_takeDue_16 : decode cX2_takeDue 16 = .ok (.lcmp, 1) := by decide +kernel
theorem dX2_takeDue_17 : decode cX2_takeDue 17 = .ok (.ifCond .ge 10, 3) := by decide +kernel
theorem dX2_takeDue_20 : decode cX2_takeDue 20 = .ok (.lload 5, 2) := by decide +kernel
theorem dX2_takeDue_22 : decode cX2_takeDue 22 = .ok (.lconst 0, 1) := by decide +kernel
theorem dX2_takeDue_23 : decode cX2_takeDue 23 = .ok (.lcmp, 1) := by decide +kernel
theorem dX2_takeDue_24 : decode cX2_takeDue 24 = .ok (.ifCond .gt 4, 3) := by decide +kernel
theorem dX2_takeDue_27 : decode cX2_takeDue 27 = .ok (.return_, 1) := by decide +kernel
theorem dX2_takeDue_28 : decode cX2_takeDue 28 = .ok (.aload_n 2, 1) := by decide +kernel
theorem dX2_takeDue_29 : decode cX2_takeDue 29 = .ok (.getfield 114, 3) := by decide +kernel
theorem dX2_takeDue_32 : decode cX2_takeDue 32 = .ok (.aload_n 2, 1) := by decide +kernel
theorem dX2_takeDue_33 : decode cX2_takeDue 33 = .ok (.getfield 99, 3) := by decide +kernel
theorem dX2_takeDue_36 : decode cX2_takeDue 36 = .ok (.lload 7, 2) := by decide +kernel
theorem dX2_takeDue_38 : decode cX2_takeDue 38 = .ok (.aload_n 0, 1) := by decide +kernel
theorem dX2_takeDue_39 : decode cX2_takeDue 39 = .ok (.getfield 69, 3) := by decide +kernel
theorem dX2_takeDue_42 : decode cX2_takeDue 42 = .ok (.invokestatic 118, 3) := by decide +kernel
theorem dX2_takeDue_45 : decode cX2_takeDue 45 = .ok (.lstore 9, 2) := by decide +kernel
theorem dX2_takeDue_47 : decode cX2_takeDue 47 = .ok (.aload_n 2, 1) := by decide +kernel
theorem dX2_takeDue_48 : decode cX2_takeDue 48 = .ok (.getfield 114, 3) := by decide +kernel
theorem dX2_takeDue_51 : decode cX2_takeDue 51 = .ok (.lload 9, 2) := by decide +kernel
theorem dX2_takeDue_53 : decode cX2_takeDue 53 = .ok (.ldc2_w 11, 3) := by decide +kernel
theorem dX2_takeDue_56 : decode cX2_takeDue 56 = .ok (.lmul, 1) := by decide +kernel
theorem dX2_takeDue_57 : decode cX2_takeDue 57 = .ok (.lload 5, 2) := by decide +kernel
theorem dX2_takeDue_59 : decode cX2_takeDue 59 = .ok (.ldiv, 1) := by decide +kernel
theorem dX2_takeDue_60 : decode cX2_takeDue 60 = .ok (.invokestatic 108, 3) := by decide +kernel
theorem dX2_takeDue_63 : decode cX2_takeDue 63 = .ok (.lstore 11, 2) := by decide +kernel
theorem dX2_takeDue_65 : decode cX2_takeDue 65 = .ok (.aload_n 1, 1) := by decide +kernel
theorem dX2_takeDue_66 : decode cX2_takeDue 66 = .ok (.dup, 1) := by decide +kernel
theorem dX2_takeDue_67 : decode cX2_takeDue 67 = .ok (.getfield 37, 3) := by decide +kernel
theorem dX2_takeDue_70 : decode cX2_takeDue 70 = .ok (.lload 9, 2) := by decide +kernel
theorem dX2_takeDue_72 : decode cX2_takeDue 72 = .ok (.lsub, 1) := by decide +kernel
theorem dX2_takeDue_73 : decode cX2_takeDue 73 = .ok (.putfield 37, 3) := by decide +kernel
theorem dX2_takeDue_76 : decode cX2_takeDue 76 = .ok (.aload_n 0, 1) := by decide +kernel
theorem dX2_takeDue_77 : decode cX2_takeDue 77 = .ok (.getfield 41, 3) := by decide +kernel
theorem dX2_takeDue_80 : decode cX2_takeDue 80 = .ok (.iconst 0, 1) := by decide +kernel
theorem dX2_takeDue_81 : decode cX2_takeDue 81 = .ok (.dup2, 1) := by decide +kernel
theorem dX2_takeDue_82 : decode cX2_takeDue 82 = .ok (.laload, 1) := by decide +kernel
theorem dX2_takeDue_83 : decode cX2_takeDue 83 = .ok (.lload 9, 2) := by decide +kernel
theorem dX2_takeDue_85 : decode cX2_takeDue 85 = .ok (.ladd, 1) := by decide +kernel
theorem dX2_takeDue_86 : decode cX2_takeDue 86 = .ok (.lastore, 1) := by decide +kernel
theorem dX2_takeDue_87 : decode cX2_takeDue 87 = .ok (.aload_n 2, 1) := by decide +kernel
theorem dX2_takeDue_88 : decode cX2_takeDue 88 = .ok (.dup, 1) := by decide +kernel
theorem dX2_takeDue_89 : decode cX2_takeDue 89 = .ok (.getfield 114, 3) := by decide +kernel
theorem dX2_takeDue_92 : decode cX2_takeDue 92 = .ok (.lload 11, 2) := by decide +kernel
theorem dX2_takeDue_94 : decode cX2_takeDue 94 = .ok (.lsub, 1) := by decide +kernel
theorem dX2_takeDue_95 : decode cX2_takeDue 95 = .ok (.putfield 114, 3) := by decide +kernel
theorem dX2_takeDue_98 : decode cX2_takeDue 98 = .ok (.aload_n 1, 1) := by decide +kernel
theorem dX2_takeDue_99 : decode cX2_takeDue 99 = .ok (.dup, 1) := by decide +kernel
theorem dX2_takeDue_100 : decode cX2_takeDue 100 = .ok (.getfield 117, 3) := by decide +kernel
theorem dX2_takeDue_103 : decode cX2_takeDue 103 = .ok (.lload 11, 2) := by decide +kernel
theorem dX2_takeDue_105 : decode cX2_takeDue 105 = .ok (.lsub, 1) := by decide +kernel
theorem dX2_takeDue_106 : decode cX2_takeDue 106 = .ok (.putfield 117, 3) := by decide +kernel
theorem dX2_takeDue_109 : decode cX2_takeDue 109 = .ok (.return_, 1) := by decide +kernel
theorem dX2_mergeAll_0 : decode cX2_mergeAll 0 = .ok (.aload_n 0, 1) := by decide +kernel
theorem dX2_mergeAll_1 : decode cX2_mergeAll 1 = .ok (.getfield 89, 3) := by decide +kernel
theorem dX2_mergeAll_4 : decode cX2_mergeAll 4 = .ok (.iconst 1, 1) := by decide +kernel
theorem dX2_mergeAll_5 : decode cX2_mergeAll 5 = .ok (.if_icmp .eq 10, 3) := by decide +kernel
theorem dX2_mergeAll_8 : decode cX2_mergeAll 8 = .ok (.aload_n 0, 1) := by decide +kernel
theorem dX2_mergeAll_9 : decode cX2_mergeAll 9 = .ok (.getfield 13, 3) := by decide +kernel
theorem dX2_mergeAll_12 : decode cX2_mergeAll 12 = .ok (.ifCond .ne 5, 3) := by decide +kernel
theorem dX2_mergeAll_15 : decode cX2_mergeAll 15 = .ok (.iconst 0, 1) := by decide +kernel
theorem dX2_mergeAll_16 : decode cX2_mergeAll 16 = .ok (.ireturn, 1) := by decide +kernel
theorem dX2_mergeAll_17 : decode cX2_mergeAll 17 = .ok (.aload_n 0, 1) := by decide +kernel
theorem dX2_mergeAll_18 : decode cX2_mergeAll 18 = .ok (.getfield 19, 3) := by decide +kernel
theorem dX2_mergeAll_21 : decode cX2_mergeAll 21 = .ok (.iconst 0, 1) := by decide +kernel
theorem dX2_mergeAll_22 : decode cX2_mergeAll 22 = .ok (.aaload, 1) := by decide +kernel
theorem dX2_mergeAll_23 : decode cX2_mergeAll 23 = .ok (.astore_n 1, 1) := by decide +kernel
theorem dX2_mergeAll_24 : decode cX2_mergeAll 24 = .ok (.aload_n 1, 1) := by decide +kernel
theorem dX2_mergeAll_25 : decode cX2_mergeAll 25 = .ok (.invokevirtual 65, 3) := by decide +kernel
theorem dX2_mergeAll_28 : decode cX2_mergeAll 28 = .ok (.lstore_n 2, 1) := by decide +kernel
theorem dX2_mergeAll_29 : decode cX2_mergeAll 29 = .ok (.lload_n 2, 1) := by decide +kernel
theorem dX2_mergeAll_30 : decode cX2_mergeAll 30 = .ok (.aload_n 1, 1) := by decide +kernel
theorem dX2_mergeAll_31 : decode cX2_mergeAll 31 = .ok (.getfield 105, 3) := by decide +kernel
theorem dX2_mergeAll_34 : decode cX2_mergeAll 34 = .ok (.lcmp, 1) := by decide +kernel
theorem dX2_mergeAll_35 : decode cX2_mergeAll 35 = .ok (.ifCond .eq 5, 3) := by decide +kernel
theorem dX2_mergeAll_38 : decode cX2_mergeAll 38 = .ok (.iconst 0, 1) := by decide +kernel
theorem dX2_mergeAll_39 : decode cX2_mergeAll 39 = .ok (.ireturn, 1) := by decide +kernel
theorem dX2_mergeAll_40 : decode cX2_mergeAll 40 = .ok (.iconst 0, 1) := by decide +kernel
theorem dX2_mergeAll_41 : decode cX2_mergeAll 41 = .ok (.istore 4, 2) := by decide +kernel
theorem dX2_mergeAll_43 : decode cX2_mergeAll 43 = .ok (.iconst 1, 1) := by decide +kernel
theorem dX2_mergeAll_44 : decode cX2_mergeAll 44 = .ok (.istore 5, 2) := by decide +kernel
theorem dX2_mergeAll_46 : decode cX2_mergeAll 46 = .ok (.iload 5, 2) := by decide +kernel
theorem dX2_mergeAll_48 : decode cX2_mergeAll 48 = .ok (.aload_n 0, 1) := by decide +kernel
theorem dX2_mergeAll_49 : decode cX2_mergeAll 49 = .ok (.getfield 13, 3) := by decide +kernel
theorem dX2_mergeAll_52 : decode cX2_mergeAll 52 = .ok (.if_icmp .ge 49, 3) := by decide +kernel
theorem dX2_mergeAll_55 : decode cX2_mergeAll 55 = .ok (.aload_n 0, 1) := by decide +kernel
theorem dX2_mergeAll_56 : decode cX2_mergeAll 56 = .ok (.getfield 19, 3) := by decide +kernel
theorem dX2_mergeAll_59 : decode cX2_mergeAll 59 = .ok (.iload 5, 2) := by decide +kernel
theorem dX2_mergeAll_61 : decode cX2_mergeAll 61 = .ok (.aaload, 1) := by decide +kernel
theorem dX2_mergeAll_62 : decode cX2_mergeAll 62 = .ok (.invokevirtual 65, 3) := by decide +kernel
theorem dX2_mergeAll_65 : decode cX2_mergeAll 65 = .ok (.aload_n 0, 1) := by decide +kernel
theorem dX2_mergeAll_66 : decode cX2_mergeAll 66 = .ok (.getfield 19, 3) := by decide +kernel
theorem dX2_mergeAll_69 : decode cX2_mergeAll 69 = .ok (.iload 5, 2) := by decide +kernel
theorem dX2_mergeAll_71 : decode cX2_mergeAll 71 = .ok (.aaload, 1) := by decide +kernel
theorem dX2_mergeAll_72 : decode cX2_mergeAll 72 = .ok (.getfield 105, 3) := by decide +kernel
theorem dX2_mergeAll_75 : decode cX2_mergeAll 75 = .ok (.lcmp, 1) := by decide +kernel
theorem dX2_mergeAll_76 : decode cX2_mergeAll 76 = .ok (.ifCond .ne 19, 3) := by decide +kernel
theorem dX2_mergeAll_79 : decode cX2_mergeAll 79 = .ok (.aload_n 0, 1) := by decide +kernel
theorem dX2_mergeAll_80 : decode cX2_mergeAll 80 = .ok (.aload_n 1, 1) := by decide +kernel
theorem dX2_mergeAll_81 : decode cX2_mergeAll 81 = .ok (.lload_n 2, 1) := by decide +kernel
theorem dX2_mergeAll_82 : decode cX2_mergeAll 82 = .ok (.aload_n 0, 1) := by decide +kernel
theorem dX2_mergeAll_83 : decode cX2_mergeAll 83 = .ok (.getfield 19, 3) := by decide +kernel
theorem dX2_mergeAll_86 : decode cX2_mergeAll 86 = .ok (.iload 5, 2) := by decide +kernel
theorem dX2_mergeAll_88 : decode cX2_mergeAll 88 = .ok (.aaload, 1) := by decide +kernel
theorem dX2_mergeAll_89 : decode cX2_mergeAll 89 = .ok (.invokestatic 122, 3) := by decide +kernel
theorem dX2_mergeAll_92 : decode cX2_mergeAll 92 = .ok (.iinc 4 1, 3) := by decide +kernel
theorem dX2_mergeAll_95 : decode cX2_mergeAll 95 = .ok (.iinc 5 1, 3) := by decide +kernel
theorem dX2_mergeAll_98 : decode cX2_mergeAll 98 = .ok (.goto (-52), 3) := by decide +kernel
theorem dX2_mergeAll_101 : decode cX2_mergeAll 101 = .ok (.aload_n 0, 1) := by decide +kernel
theorem dX2_mergeAll_102 : decode cX2_mergeAll 102 = .ok (.invokevirtual 59, 3) := by decide +kernel
theorem dX2_mergeAll_105 : decode cX2_mergeAll 105 = .ok (.aload_n 0, 1) := by decide +kernel
theorem dX2_mergeAll_106 : decode cX2_mergeAll 106 = .ok (.invokevirtual 62, 3) := by decide +kernel
theorem dX2_mergeAll_109 : decode cX2_mergeAll 109 = .ok (.iload 4, 2) := by decide +kernel
theorem dX2_mergeAll_111 : decode cX2_mergeAll 111 = .ok (.ireturn, 1) := by decide +kernel
theorem dX2_absorb_0 : decode cX2_absorb 0 = .ok (.aload 4, 2) := by decide +kernel
theorem dX2_absorb_2 : decode cX2_absorb 2 = .ok (.invokevirtual 65, 3) := by decide +kernel
theorem dX2_absorb_5 : decode cX2_absorb 5 = .ok (.lstore 5, 2) := by decide +kernel
theorem dX2_absorb_7 : decode cX2_absorb 7 = .ok (.iconst 0, 1) := by decide +kernel
theorem dX2_absorb_8 : decode cX2_absorb 8 = .ok (.istore 7, 2) := by decide +kernel
theorem dX2_absorb_10 : decode cX2_absorb 10 = .ok (.iload 7, 2) := by decide +kernel
theorem dX2_absorb_12 : decode cX2_absorb 12 = .ok (.aload_n 0, 1) := by decide +kernel
theorem dX2_absorb_13 : decode cX2_absorb 13 = .ok (.getfield 75, 3) := by decide +kernel
theorem dX2_absorb_16 : decode cX2_absorb 16 = .ok (.if_icmp .ge 85, 3) := by decide +kernel
theorem dX2_absorb_19 : decode cX2_absorb 19 = .ok (.aload_n 0, 1) := by decide +kernel
theorem dX2_absorb_20 : decode cX2_absorb 20 = .ok (.getfield 78, 3) := by decide +kernel
theorem dX2_absorb_23 : decode cX2_absorb 23 = .ok (.iload 7, 2) := by decide +kernel
theorem dX2_absorb_25 : decode cX2_absorb 25 = .ok (.aaload, 1) := by decide +kernel
theorem dX2_absorb_26 : decode cX2_absorb 26 = .ok (.astore 8, 2) := by decide +kernel
theorem dX2_absorb_28 : decode cX2_absorb 28 = .ok (.aload 8, 2) := by decide +kernel
theorem dX2_absorb_30 : decode cX2_absorb 30 = .ok (.getfield 82, 3) := by decide +kernel
theorem dX2_absorb_33 : decode cX2_absorb 33 = .ok (.aload 4, 2) := by decide +kernel
theorem dX2_absorb_35 : decode cX2_absorb 35 = .ok (.getfield 86, 3) := by decide +kernel
theorem dX2_absorb_38 : decode cX2_absorb 38 = .ok (.if_icmp .ne 57, 3) := by decide +kernel
theorem dX2_absorb_41 : decode cX2_absorb 41 = .ok (.aload 8, 2) := by decide +kernel
theorem dX2_absorb_43 : decode cX2_absorb 43 = .ok (.lload_n 2, 1) := by decide +kernel
theorem dX2_absorb_44 : decode cX2_absorb 44 = .ok (.lconst 0, 1) := by decide +kernel
theorem dX2_absorb_45 : decode cX2_absorb 45 = .ok (.lcmp, 1) := by decide +kernel
theorem dX2_absorb_46 : decode cX2_absorb 46 = .ok (.ifCond .le 16, 3) := by decide +kernel
theorem dX2_absorb_49 : decode cX2_absorb 49 = .ok (.aload 8, 2) := by decide +kernel
theorem dX2_absorb_51 : decode cX2_absorb 51 = .ok (.getfield 114, 3) := by decide +kernel
theorem dX2_absorb_54 : decode cX2_absorb 54 = .ok (.lload 5, 2) := by decide +kernel
theorem dX2_absorb_56 : decode cX2_absorb 56 = .ok (.lmul, 1) := by decide +kernel
theorem dX2_absorb_57 : decode cX2_absorb 57 = .ok (.lload_n 2, 1) := by decide +kernel
theorem dX2_absorb_58 : decode cX2_absorb 58 = .ok (.ldiv, 1) := by decide +kernel
theorem dX2_absorb_59 : decode cX2_absorb 59 = .ok (.goto 4, 3) := by decide +kernel
theorem dX2_absorb_62 : decode cX2_absorb 62 = .ok (.lconst 0, 1) := by decide +kernel
theorem dX2_absorb_63 : decode cX2_absorb 63 = .ok (.putfield 114, 3) := by decide +kernel
theorem dX2_absorb_66 : decode cX2_absorb 66 = .ok (.aload 8, 2) := by decide +kernel
theorem dX2_absorb_68 : decode cX2_absorb 68 = .ok (.aload_n 1, 1) := by decide +kernel
theorem dX2_absorb_69 : decode cX2_absorb 69 = .ok (.getfield 86, 3) := by decide +kernel
theorem dX2_absorb_72 : decode cX2_absorb 72 = .ok (.putfield 82, 3) := by decide +kernel
theorem dX2_absorb_75 : decode cX2_absorb 75 = .ok (.aload 8, 2) := by decide +kernel
theorem dX2_absorb_77 : decode cX2_absorb 77 = .ok (.lload_n 2, 1) := by decide +kernel
theorem dX2_absorb_78 : decode cX2_absorb 78 = .ok (.putfield 99, 3) := by decide +kernel
theorem dX2_absorb_81 : decode cX2_absorb 81 = .ok (.aload_n 1, 1) := by decide +kernel
theorem dX2_absorb_82 : decode cX2_absorb 82 = .ok (.dup, 1) := by decide +kernel
theorem dX2_absorb_83 : decode cX2_absorb 83 = .ok (.getfield 117, 3) := by decide +kernel
theorem dX2_absorb_86 : decode cX2_absorb 86 = .ok (.aload 8, 2) := by decide +kernel
theorem dX2_absorb_88 : decode cX2_absorb 88 = .ok (.getfield 114, 3) := by decide +kernel
theorem dX2_absorb_91 : decode cX2_absorb 91 = .ok (.ladd, 1) := by decide +kernel
theorem dX2_absorb_92 : decode cX2_absorb 92 = .ok (.putfield 117, 3) := by decide +kernel
theorem dX2_absorb_95 : decode cX2_absorb 95 = .ok (.iinc 7 1, 3) := by decide +kernel
theorem dX2_absorb_98 : decode cX2_absorb 98 = .ok (.goto (-88), 3) := by decide +kernel
theorem dX2_absorb_101 : decode cX2_absorb 101 = .ok (.aload_n 1, 1) := by decide +kernel
theorem dX2_absorb_102 : decode cX2_absorb 102 = .ok (.dup, 1) := by decide +kernel
theorem dX2_absorb_103 : decode cX2_absorb 103 = .ok (.getfield 37, 3) := by decide +kernel
theorem dX2_absorb_106 : decode cX2_absorb 106 = .ok (.aload 4, 2) := by decide +kernel
theorem dX2_absorb_108 : decode cX2_absorb 108 = .ok (.getfield 37, 3) := by decide +kernel
theorem dX2_absorb_111 : decode cX2_absorb 111 = .ok (.ladd, 1) := by decide +kernel
theorem dX2_absorb_112 : decode cX2_absorb 112 = .ok (.putfield 37, 3) := by decide +kernel
theorem dX2_absorb_115 : decode cX2_absorb 115 = .ok (.aload 4, 2) := by decide +kernel
theorem dX2_absorb_117 : decode cX2_absorb 117 = .ok (.lconst 0, 1) := by decide +kernel
theorem dX2_absorb_118 : decode cX2_absorb 118 = .ok (.putfield 37, 3) := by decide +kernel
theorem dX2_absorb_121 : decode cX2_absorb 121 = .ok (.aload 4, 2) := by decide +kernel
theorem dX2_absorb_123 : decode cX2_absorb 123 = .ok (.lconst 0, 1) := by decide +kernel
theorem dX2_absorb_124 : decode cX2_absorb 124 = .ok (.putfield 117, 3) := by decide +kernel
theorem dX2_absorb_127 : decode cX2_absorb 127 = .ok (.return_, 1) := by decide +kernel
theorem dX3_init_0 : decode cX3_init 0 = .ok (.aload_n 0, 1) := by decide +kernel
theorem dX3_init_1 : decode cX3_init 1 = .ok (.invokespecial 3, 3) := by decide +kernel
theorem dX3_init_4 : decode cX3_init 4 = .ok (.aload_n 0, 1) := by decide +kernel
theorem dX3_init_5 : decode cX3_init 5 = .ok (.iconst 0, 1) := by decide +kernel
theorem dX3_init_6 : decode cX3_init 6 = .ok (.putfield 9, 3) := by decide +kernel
theorem dX3_init_9 : decode cX3_init 9 = .ok (.aload_n 0, 1) := by decide +kernel
theorem dX3_init_10 : decode cX3_init 10 = .ok (.aload_n 1, 1) := by decide +kernel
theorem dX3_init_11 : decode cX3_init 11 = .ok (.putfield 15, 3) := by decide +kernel
theorem dX3_init_14 : decode cX3_init 14 = .ok (.aload_n 0, 1) := by decide +kernel
theorem dX3_init_15 : decode cX3_init 15 = .ok (.aload_n 2, 1) := by decide +kernel
theorem dX3_init_16 : decode cX3_init 16 = .ok (.putfield 19, 3) := by decide +kernel
theorem dX3_init_19 : decode cX3_init 19 = .ok (.return_, 1) := by decide +kernel
theorem dX3_readAll_0 : decode cX3_readAll 0 = .ok (.aload_n 0, 1) := by decide +kernel
theorem dX3_readAll_1 : decode cX3_readAll 1 = .ok (.getfield 19, 3) := by decide +kernel
theorem dX3_readAll_4 : decode cX3_readAll 4 = .ok (.invokevirtual 23, 3) := by decide +kernel
theorem dX3_readAll_7 : decode cX3_readAll 7 = .ok (.aload_n 0, 1) := by decide +kernel
theorem dX3_readAll_8 : decode cX3_readAll 8 = .ok (.invokevirtual 28, 3) := by decide +kernel
theorem dX3_readAll_11 : decode cX3_readAll 11 = .ok (.ifCond .eq 21, 3) := by decide +kernel
theorem dX3_readAll_14 : decode cX3_readAll 14 = .ok (.aload_n 0, 1) := by decide +kernel
theorem dX3_readAll_15 : decode cX3_readAll 15 = .ok (.invokevirtual 32, 3) := by decide +kernel
theorem dX3_readAll_18 : decode cX3_readAll 18 = .ok (.ifCond .eq 14, 3) := by decide +kernel
theorem dX3_readAll_21 : decode cX3_readAll 21 = .ok (.aload_n 0, 1) := by decide +kernel
theorem dX3_readAll_22 : decode cX3_readAll 22 = .ok (.invokevirtual 35, 3) := by decide +kernel
theorem dX3_readAll_25 : decode cX3_readAll 25 = .ok (.ifCond .eq 7, 3) := by decide +kernel
theorem dX3_readAll_28 : decode cX3_readAll 28 = .ok (.iconst 1, 1) := by decide +kernel
theorem dX3_readAll_29 : decode cX3_readAll 29 = .ok (.goto 4, 3) := by decide +kernel
theorem dX3_readAll_32 : decode cX3_readAll 32 = .ok (.iconst 0, 1) := by decide +kernel
theorem dX3_readAll_33 : decode cX3_readAll 33 = .ok (.ireturn, 1) := by decide +kernel
theorem dX3_readFund_0 : decode cX3_readFund 0 = .ok (.aload_n 0, 1) := by decide +kernel
theorem dX3_readFund_1 : decode cX3_readFund 1 = .ok (.ldc 38, 2) := by decide +kernel
theorem dX3_readFund_3 : decode cX3_readFund 3 = .ok (.invokevirtual 40, 3) := by decide +kernel
theorem dX3_readFund_6 : decode cX3_readFund 6 = .ok (.ifCond .eq 21, 3) := by decide +kernel
theorem dX3_readFund_9 : decode cX3_readFund 9 = .ok (.aload_n 0, 1) := by decide +kernel
theorem dX3_readFund_10 : decode cX3_readFund 10 = .ok (.invokevirtual 44, 3) := by decide +kernel
theorem dX3_readFund_13 : decode cX3_readFund 13 = .ok (.ifCond .eq 14, 3) := by decide +kernel
theorem dX3_readFund_16 : decode cX3_readFund 16 = .ok (.aload_n 0, 1) := by decide +kernel
theorem dX3_readFund_17 : decode cX3_readFund 17 = .ok (.iconst 0, 1) := by decide +kernel
theorem dX3_readFund_18 : decode cX3_readFund 18 = .ok (.sipush 9999, 3) := by decide +kernel
theorem dX3_readFund_21 : decode cX3_readFund 21 = .ok (.invokevirtual 47, 3) := by decide +kernel
theorem dX3_readFund_24 : decode cX3_readFund 24 = .ok (.ifCond .ne 5, 3) := by decide +kernel
theorem dX3_readFund_27 : decode cX3_readFund 27 = .ok (.iconst 0, 1) := by decide +kernel
theorem dX3_readFund_28 : decode cX3_readFund 28 = .ok (.ireturn, 1) := by decide +kernel
theorem dX3_readFund_29 : decode cX3_readFund 29 = .ok (.aload_n 0, 1) := by decide +kernel
theorem dX3_readFund_30 : decode cX3_readFund 30 = .ok (.getfield 19, 3) := by decide +kernel
theorem dX3_readFund_33 : decode cX3_readFund 33 = .ok (.aload_n 0, 1) := by decide +kernel
theorem dX3_readFund_34 : decode cX3_readFund 34 = .ok (.getfield 15, 3) := by decide +kernel
theorem dX3_readFund_37 : decode cX3_readFund 37 = .ok (.getfield 51, 3) := by decide +kernel
theorem dX3_readFund_40 : decode cX3_readFund 40 = .ok (.putfield 56, 3) := by decide +kernel
theorem dX3_readFund_43 : decode cX3_readFund 43 = .ok (.aload_n 0, 1) := by decide +kernel
theorem dX3_readFund_44 : decode cX3_readFund 44 = .ok (.iconst 0, 1) := by decide +kernel
theorem dX3_readFund_45 : decode cX3_readFund 45 = .ok (.bipush 50, 2) := by decide +kernel
theorem dX3_readFund_47 : decode cX3_readFund 47 = .ok (.invokevirtual 47, 3) := by decide +kernel
theorem dX3_readFund_50 : decode cX3_readFund 50 = .ok (.ifCond .ne 5, 3) := by decide +kernel
theorem dX3_readFund_53 : decode cX3_readFund 53 = .ok (.iconst 0, 1) := by decide +kernel
theorem dX3_readFund_54 : decode cX3_readFund 54 = .ok (.ireturn, 1) := by decide +kernel
theorem dX3_readFund_55 : decode cX3_readFund 55 = .ok (.aload_n 0, 1) := by decide +kernel
theorem dX3_readFund_56 : decode cX3_readFund 56 = .ok (.getfield 19, 3) := by decide +kernel
theorem dX3_readFund_59 : decode cX3_readFund 59 = .ok (.aload_n 0, 1) := by decide +kernel
theorem dX3_readFund_60 : decode cX3_readFund 60 = .ok (.getfield 15, 3) := by decide +kernel
theorem dX3_readFund_63 : decode cX3_readFund 63 = .ok (.getfield 51, 3) := by decide +kernel
theorem dX3_readFund_66 : decode cX3_readFund 66 = .ok (.putfield 59, 3) := by decide +kernel
theorem dX3_readFund_69 : decode cX3_readFund 69 = .ok (.aload_n 0, 1) := by decide +kernel
theorem dX3_readFund_70 : decode cX3_readFund 70 = .ok (.iconst 1, 1) := by decide +kernel
theorem dX3_readFund_71 : decode cX3_readFund 71 = .ok (.bipush 100, 2) := by decide +kernel
theorem dX3_readFund_73 : decode cX3_readFund 73 = .ok (.invokevirtual 47, 3) := by decide +kernel
theorem dX3_readFund_76 : decode cX3_readFund 76 = .ok (.ifCond .ne 5, 3) := by decide +kernel
theorem dX3_readFund_79 : decode cX3_readFund 79 = .ok (.iconst 0, 1) := by decide +kernel
theorem dX3_readFund_80 : decode cX3_readFund 80 = .ok (.ireturn, 1) := by decide +kernel
theorem dX3_readFund_81 : decode cX3_readFund 81 = .ok (.aload_n 0, 1) := by decide +kernel
theorem dX3_readFund_82 : decode cX3_readFund 82 = .ok (.getfield 19, 3) := by decide +kernel
theorem dX3_readFund_85 : decode cX3_readFund 85 = .ok (.aload_n 0, 1) := by decide +kernel
theorem dX3_readFund_86 : decode cX3_readFund 86 = .ok (.getfield 15, 3) := by decide +kernel
theorem dX3_readFund_89 : decode cX3_readFund 89 = .ok (.getfield 51, 3) := by decide +kernel
theorem dX3_readFund_92 : decode cX3_readFund 92 = .ok (.putfield 62, 3) := by decide +kernel
theorem dX3_readFund_95 : decode cX3_readFund 95 = .ok (.aload_n 0, 1) := by decide +kernel
theorem dX3_readFund_96 : decode cX3_readFund 96 = .ok (.invokevirtual 65, 3) := by decide +kernel
theorem dX3_readFund_99 : decode cX3_readFund 99 = .ok (.ireturn, 1) := by decide +kernel
theorem dX3_readMethod_0 : decode cX3_readMethod 0 = .ok (.aload_n 0, 1) := by decide +kernel
theorem dX3_readMethod_1 : decode cX3_readMethod 1 = .ok (.getfield 15, 3) := by decide +kernel
theorem dX3_readMethod_4 : decode cX3_readMethod 4 = .ok (.invokevirtual 68, 3) := by decide +kernel
theorem dX3_readMethod_7 : decode cX3_readMethod 7 = .ok (.aload_n 0, 1) := by decide +kernel
theorem dX3_readMethod_8 : decode cX3_readMethod 8 = .ok (.getfield 19, 3) := by decide +kernel
theorem dX3_readMethod_11 : decode cX3_readMethod 11 = .ok (.aload_n 0, 1) := by decide +kernel
theorem dX3_readMethod_12 : decode cX3_readMethod 12 = .ok (.getfield 15, 3) := by decide +kernel
theorem dX3_readMethod_15 : decode cX3_readMethod 15 = .ok (.ldc 71, 2) := by decide +kernel
theorem dX3_readMethod_17 : decode cX3_readMethod 17 = .ok (.invokevirtual 73, 3) := by decide +kernel
theorem dX3_readMethod_20 : decode cX3_readMethod 20 = .ok (.ifCond .eq 7, 3) := by decide +kernel
theorem dX3_readMethod_23 : decode cX3_readMethod 23 = .ok (.iconst 1, 1) := by decide +kernel
theorem dX3_readMethod_24 : decode cX3_readMethod 24 = .ok (.goto 4, 3) := by decide +kernel
theorem dX3_readMethod_27 : decode cX3_readMethod 27 = .ok (.iconst 0, 1) := by decide +kernel
theorem dX3_readMethod_28 : decode cX3_readMethod 28 = .ok (.putfield 76, 3) := by decide +kernel
theorem dX3_readMethod_31 : decode cX3_readMethod 31 = .ok (.aload_n 0, 1) := by decide +kernel
theorem dX3_readMethod_32 : decode cX3_readMethod 32 = .ok (.aload_n 0, 1) := by decide +kernel
theorem dX3_readMethod_33 : decode cX3_readMethod 33 = .ok (.getfield 19, 3) := by decide +kernel
theorem dX3_readMethod_36 : decode cX3_readMethod 36 = .ok (.getfield 76, 3) := by decide +kernel
theorem dX3_readMethod_39 : decode cX3_readMethod 39 = .ok (.iconst 1, 1) := by decide +kernel
theorem dX3_readMethod_40 : decode cX3_readMethod 40 = .ok (.if_icmp .eq 15, 3) := by decide +kernel
theorem dX3_readMethod_43 : decode cX3_readMethod 43 = .ok (.aload_n 0, 1) := by decide +kernel
theorem dX3_readMethod_44 : decode cX3_readMethod 44 = .ok (.getfield 15, 3) := by decide +kernel
theorem dX3_readMethod_47 : decode cX3_readMethod 47 = .ok (.ldc 79, 2) := by decide +kernel
theorem dX3_readMethod_49 : decode cX3_readMethod 49 = .ok (.invokevirtual 73, 3) := by decide +kernel
theorem dX3_readMethod_52 : decode cX3_readMethod 52 = .ok (.ifCond .eq 7, 3) := by decide +kernel
theorem dX3_readMethod_55 : decode cX3_readMethod 55 = .ok (.iconst 1, 1) := by decide +kernel
theorem dX3_readMethod_56 : decode cX3_readMethod 56 = .ok (.goto 4, 3) := by decide +kernel
theorem dX3_readMethod_59 : decode cX3_readMethod 59 = .ok (.iconst 0, 1) := by decide +kernel
theorem dX3_readMethod_60 : decode cX3_readMethod 60 = .ok (.iconst 1, 1) := by decide +kernel
theorem dX3_readMethod_61 : decode cX3_readMethod 61 = .ok (.invokevirtual 81, 3) := by decide +kernel
theorem dX3_readMethod_64 : decode cX3_readMethod 64 = .ok (.ireturn, 1) := by decide +kernel
theorem dX3_readInvestors_0 : decode cX3_readInvestors 0 = .ok (.aload_n 0, 1) := by decide +kernel
theorem dX3_readInvestors_1 : decode cX3_readInvestors 1 = .ok (.ldc 85, 2) := by decide +kernel
theorem dX3_readInvestors_3 : decode cX3_readInvestors 3 = .ok (.invokevirtual 40, 3) := by decide +kernel
theorem dX3_readInvestors_6 : decode cX3_readInvestors 6 = .ok (.ifCond .eq 13, 3) := by decide +kernel
theorem dX3_readInvestors_9 : decode cX3_readInvestors 9 = .ok (.aload_n 0, 1) := by decide +kernel
theorem dX3_readInvestors_10 : decode cX3_readInvestors 10 = .ok (.iconst 1, 1) := by decide +kernel
theorem dX3_readInvestors_11 : decode cX3_readInvestors 11 = .ok (.bipush 6, 2) := by decide +kernel
theorem dX3_readInvestors_13 : decode cX3_readInvestors 13 = .ok (.invokevirtual 47, 3) := by decide +kernel
theorem dX3_readInvestors_16 : decode cX3_readInvestors 16 = .ok (.ifCond .ne 5, 3) := by decide +kernel
theorem dX3_readInvestors_19 : decode cX3_readInvestors 19 = .ok (.iconst 0, 1) := by decide +kernel
theorem dX3_readInvestors_20 : decode cX3_readInvestors 20 = .ok (.ireturn, 1) := by decide +kernel
theorem dX3_readInvestors_21 : decode cX3_readInvestors 21 = .ok (.aload_n 0, 1) := by decide +kernel
theorem dX3_readInvestors_22 : decode cX3_readInvestors 22 = .ok (.getfield 19, 3) := by decide +kernel
theorem dX3_readInvestors_25 : decode cX3_readInvestors 25 = .ok (.aload_n 0, 1) := by decide +kernel
theorem dX3_readInvestors_26 : decode cX3_readInvestors 26 = .ok (.getfield 15, 3) := by decide +kernel
theorem dX3_readInvestors_29 : decode cX3_readInvestors 29 = .ok (.getfield 51, 3) := by decide +kernel
theorem dX3_readInvestors_32 : decode cX3_readInvestors 32 = .ok (.putfield 87, 3) := by decide +kernel
theorem dX3_readInvestors_35 : decode cX3_readInvestors 35 = .ok (.aload_n 0, 1) := by decide +kernel
theorem dX3_readInvestors_36 : decode cX3_readInvestors 36 = .ok (.invokevirtual 65, 3) := by decide +kernel
theorem dX3_readInvestors_39 : decode cX3_readInvestors 39 = .ok (.ireturn, 1) := by decide +kernel
theorem dX3_readSubscriptions_0 : decode cX3_readSubscriptions 0 = .ok (.iconst 0, 1) := by decide +kernel
theorem dX3_readSubscriptions_1 : decode cX3_readSubscriptions 1 = .ok (.istore_n 1, 1) := by decide +kernel
theorem dX3_readSubscriptions_2 : decode cX3_readSubscriptions 2 = .ok (.iload_n 1, 1) := by decide +kernel
theorem dX3_readSubscriptions_3 : decode cX3_readSubscriptions 3 = .ok (.bipush 12, 2) := by decide +kernel
theorem dX3_readSubscriptions_5 : decode cX3_readSubscriptions 5 = .ok (.if_icmp .gt 73, 3) := by decide +kernel
theorem dX3_readSubscriptions_8 : decode cX3_readSubscriptions 8 = .ok (.aload_n 0, 1) := by decide +kernel
theorem dX3_readSubscriptions_9 : decode cX3_readSubscriptions 9 = .ok (.getfield 15, 3) := by decide +kernel
theorem dX3_readSubscriptions_12 : decode cX3_readSubscriptions 12 = .ok (.invokevirtual 68, 3) := by decide +kernel
theorem dX3_readSubscriptions_15 : decode cX3_readSubscriptions 15 = .ok (.aload_n 0, 1) := by decide +kernel
theorem dX3_readSubscriptions_16 : decode cX3_readSubscriptions 16 = .ok (.getfield 15, 3) := by decide +kernel
theorem dX3_readSubscriptions_19 : decode cX3_readSubscriptions 19 = .ok (.getfield 89, 3) := by decide +kernel
theorem dX3_readSubscriptions_22 : decode cX3_readSubscriptions 22 = .ok (.ifCond .ne 5, 3) := by decide +kernel
theorem dX3_readSubscriptions_25 : decode cX3_readSubscriptions 25 = .ok (.iconst 1, 1) := by decide +kernel
theorem dX3_readSubscriptions_26 : decode cX3_readSubscriptions 26 = .ok (.ireturn, 1) := by decide +kernel
theorem dX3_readSubscriptions_27 : decode cX3_readSubscriptions 27 = .ok (.aload_n 0, 1) := by decide +kernel
theorem dX3_readSubscriptions_28 : decode cX3_readSubscriptions 28 = .ok (.aload_n 0, 1) := by decide +kernel
theorem dX3_readSubscriptions_29 : decode cX3_readSubscriptions 29 = .ok (.getfield 15, 3) := by decide +kernel
theorem dX3_readSubscriptions_32 : decode cX3_readSubscriptions 32 = .ok (.ldc 92, 2) := by decide +kernel
theorem dX3_readSubscriptions_34 : decode cX3_readSubscriptions 34 = .ok (.invokevirtual 73, 3) := by decide +kernel
theorem dX3_readSubscriptions_37 : decode cX3_readSubscriptions 37 = .ok (.iconst 1, 1) := by decide +kernel
theorem dX3_readSubscriptions_38 : decode cX3_readSubscriptions 38 = .ok (.invokevirtual 81, 3) := by decide +kernel
theorem dX3_readSubscriptions_41 : decode cX3_readSubscriptions 41 = .ok (.ifCond .eq 29, 3) := by decide +kernel
theorem dX3_readSubscriptions_44 : decode cX3_readSubscriptions 44 = .ok (.aload_n 0, 1) := by decide +kernel
theorem dX3_readSubscriptions_45 : decode cX3_readSubscriptions 45 = .ok (.iload_n 1, 1) := by decide +kernel
theorem dX3_readSubscriptions_46 : decode cX3_readSubscriptions 46 = .ok (.bipush 12, 2) := by decide +kernel
theorem dX3_readSubscriptions_48 : decode cX3_readSubscriptions 48 = .ok (.if_icmp .ge 7, 3) := by decide +kernel
theorem dX3_readSubscriptions_51 : decode cX3_readSubscriptions 51 = .ok (.iconst 1, 1) := by decide +kernel
theorem dX3_readSubscriptions_52 : decode cX3_readSubscriptions 52 = .ok (.goto 4, 3) := by decide +kernel
theorem dX3_readSubscriptions_55 : decode cX3_readSubscriptions 55 = .ok (.iconst 0, 1) := by decide +kernel
theorem dX3_readSubscriptions_56 : decode cX3_readSubscriptions 56 = .ok (.iconst 3, 1) := by decide +kernel
theorem dX3_readSubscriptions_57 : decode cX3_readSubscriptions 57 = .ok (.invokevirtual 81, 3) := by decide +kernel
theorem dX3_readSubscriptions_60 : decode cX3_readSubscriptions 60 = .ok (.ifCond .eq 10, 3) := by decide +kernel
theorem dX3_readSubscriptions_63 : decode cX3_readSubscriptions 63 = .ok (.aload_n 0, 1) := by decide +kernel
theorem dX3_readSubscriptions_64 : decode cX3_readSubscriptions 64 = .ok (.invokevirtual 94, 3) := by decide +kernel
theorem dX3_readSubscriptions_67 : decode cX3_readSubscriptions 67 = .ok (.ifCond .ne 5, 3) := by decide +kernel
theorem dX3_readSubscriptions_70 : decode cX3_readSubscriptions 70 = .ok (.iconst 0, 1) := by decide +kernel
theorem dX3_readSubscriptions_71 : decode cX3_readSubscriptions 71 = .ok (.ireturn, 1) := by decide +kernel
theorem dX3_readSubscriptions_72 : decode cX3_readSubscriptions 72 = .ok (.iinc 1 1, 3) := by decide +kernel
theorem dX3_readSubscriptions_75 : decode cX3_readSubscriptions 75 = .ok (.goto (-73), 3) := by decide +kernel
theorem dX3_readSubscriptions_78 : decode cX3_readSubscriptions 78 = .ok (.iconst 0, 1) := by decide +kernel
theorem dX3_readSubscriptions_79 : decode cX3_readSubscriptions 79 = .ok (.ireturn, 1) := by decide +kernel
theorem dX3_readSubscription_0 : decode cX3_readSubscription 0 = .ok (.aload_n 0, 1) := by decide +kernel
theorem dX3_readSubscription_1 : decode cX3_readSubscription 1 = .ok (.iconst 0, 1) := by decide +kernel
theorem dX3_readSubscription_2 : decode cX3_readSubscription 2 = .ok (.aload_n 0, 1) := by decide +kernel
theorem dX3_readSubscription_3 : decode cX3_readSubscription 3 = .ok (.getfield 19, 3) := by decide +kernel
theorem dX3_readSubscription_6 : decode cX3_readSubscription 6 = .ok (.getfield 87, 3) := by decide +kernel
theorem dX3_readSubscription_9 : decode cX3_readSubscription 9 = .ok (.iconst 1, 1) := by decide +kernel
theorem dX3_readSubscription_10 : decode cX3_readSubscription 10 = .ok (.isub, 1) := by decide +kernel
theorem dX3_readSubscription_11 : decode cX3_readSubscription 11 = .ok (.invokevirtual 47, 3) := by decide +kernel
theorem dX3_readSubscription_14 : decode cX3_readSubscription 14 = .ok (.ifCond .ne 5, 3) := by decide +kernel
theorem dX3_readSubscription_17 : decode cX3_readSubscription 17 = .ok (.iconst 0, 1) := by decide +kernel
theorem dX3_readSubscription_18 : decode cX3_readSubscription 18 = .ok (.ireturn, 1) := by decide +kernel
theorem dX3_readSubscription_19 : decode cX3_readSubscription 19 = .ok (.aload_n 0, 1) := by decide +kernel
theorem dX3_readSubscription_20 : decode cX3_readSubscription 20 = .ok (.getfield 15, 3) := by decide +kernel
theorem dX3_readSubscription_23 : decode cX3_readSubscription 23 = .ok (.getfield 51, 3) := by decide +kernel
theorem dX3_readSubscription_26 : decode cX3_readSubscription 26 = .ok (.istore_n 1, 1) := by decide +kernel
theorem dX3_readSubscription_27 : decode cX3_readSubscription 27 = .ok (.aload_n 0, 1) := by decide +kernel
theorem dX3_readSubscription_28 : decode cX3_readSubscription 28 = .ok (.iconst 1, 1) := by decide +kernel
theorem dX3_readSubscription_29 : decode cX3_readSubscription 29 = .ok (.ldc 97, 2) := by decide +kernel
theorem dX3_readSubscription_31 : decode cX3_readSubscription 31 = .ok (.invokevirtual 47, 3) := by decide +kernel
theorem dX3_readSubscription_34 : decode cX3_readSubscription 34 = .ok (.ifCond .ne 5, 3) := by decide +kernel
theorem dX3_readSubscription_37 : decode cX3_readSubscription 37 = .ok (.iconst 0, 1) := by decide +kernel
theorem dX3_readSubscription_38 : decode cX3_readSubscription 38 = .ok (.ireturn, 1) := by decide +kernel
theorem dX3_readSubscription_39 : decode cX3_readSubscription 39 = .ok (.aload_n 0, 1) := by decide +kernel
theorem dX3_readSubscription_40 : decode cX3_readSubscription 40 = .ok (.getfield 19, 3) := by decide +kernel
theorem dX3_readSubscription_43 : decode cX3_readSubscription 43 = .ok (.iload_n 1, 1) := by decide +kernel
theorem dX3_readSubscription_44 : decode cX3_readSubscription 44 = .ok (.iconst 0, 1) := by decide +kernel
theorem dX3_readSubscription_45 : decode cX3_readSubscription 45 = .ok (.aload_n 0, 1) := by decide +kernel
theorem dX3_readSubscription_46 : decode cX3_readSubscription 46 = .ok (.getfield 15, 3) := by decide +kernel
theorem dX3_readSubscription_49 : decode cX3_readSubscription 49 = .ok (.getfield 51, 3) := by decide +kernel
theorem dX3_readSubscription_52 : decode cX3_readSubscription 52 = .ok (.i2l, 1) := by decide +kernel
theorem dX3_readSubscription_53 : decode cX3_readSubscription 53 = .ok (.invokevirtual 98, 3) := by decide +kernel
theorem dX3_readSubscription_56 : decode cX3_readSubscription 56 = .ok (.pop, 1) := by decide +kernel
theorem dX3_readSubscription_57 : decode cX3_readSubscription 57 = .ok (.aload_n 0, 1) := by decide +kernel
theorem dX3_readSubscription_58 : decode cX3_readSubscription 58 = .ok (.invokevirtual 65, 3) := by decide +kernel
theorem dX3_readSubscription_61 : decode cX3_readSubscription 61 = .ok (.ireturn, 1) := by decide +kernel
theorem dX3_readWord_0 : decode cX3_readWord 0 = .ok (.aload_n 0, 1) := by decide +kernel
theorem dX3_readWord_1 : decode cX3_readWord 1 = .ok (.getfield 15, 3) := by decide +kernel
theorem dX3_readWord_4 : decode cX3_readWord 4 = .ok (.invokevirtual 68, 3) := by decide +kernel
theorem dX3_readWord_7 : decode cX3_readWord 7 = .ok (.aload_n 0, 1) := by decide +kernel
theorem dX3_readWord_8 : decode cX3_readWord 8 = .ok (.aload_n 0, 1) := by decide +kernel
theorem dX3_readWord_9 : decode cX3_readWord 9 = .ok (.getfield 15, 3) := by decide +kernel
theorem dX3_readWord_12 : decode cX3_readWord 12 = .ok (.aload_n 1, 1) := by decide +kernel
theorem dX3_readWord_13 : decode cX3_readWord 13 = .ok (.invokevirtual 73, 3) := by decide +kernel
theorem dX3_readWord_16 : decode cX3_readWord 16 = .ok (.iconst 1, 1) := by decide +kernel
theorem dX3_readWord_17 : decode cX3_readWord 17 = .ok (.invokevirtual 81, 3) := by decide +kernel
theorem dX3_readWord_20 : decode cX3_readWord 20 = .ok (.ireturn, 1) := by decide +kernel
theorem dX3_readSemicolon_0 : decode cX3_readSemicolon 0 = .ok (.aload_n 0, 1) := by decide +kernel
theorem dX3_readSemicolon_1 : decode cX3_readSemicolon 1 = .ok (.getfield 15, 3) := by decide +kernel
theorem dX3_readSemicolon_4 : decode cX3_readSemicolon 4 = .ok (.invokevirtual 68, 3) := by decide +kernel
theorem dX3_readSemicolon_7 : decode cX3_readSemicolon 7 = .ok (.aload_n 0, 1) := by decide +kernel
theorem dX3_readSemicolon_8 : decode cX3_readSemicolon 8 = .ok (.aload_n 0, 1) := by decide +kernel
theorem dX3_readSemicolon_9 : decode cX3_readSemicolon 9 = .ok (.getfield 15, 3) := by decide +kernel
theorem dX3_readSemicolon_12 : decode cX3_readSemicolon 12 = .ok (.getfield 89, 3) := by decide +kernel
theorem dX3_readSemicolon_15 : decode cX3_readSemicolon 15 = .ok (.iconst 3, 1) := by decide +kernel
theorem dX3_readSemicolon_16 : decode cX3_readSemicolon 16 = .ok (.if_icmp .ne 7, 3) := by decide +kernel
theorem dX3_readSemicolon_19 : decode cX3_readSemicolon 19 = .ok (.iconst 1, 1) := by decide +kernel
theorem dX3_readSemicolon_20 : decode cX3_readSemicolon 20 = .ok (.goto 4, 3) := by decide +kernel
theorem dX3_readSemicolon_23 : decode cX3_readSemicolon 23 = .ok (.iconst 0, 1) := by decide +kernel
theorem dX3_readSemicolon_24 : decode cX3_readSemicolon 24 = .ok (.iconst 1, 1) := by decide +kernel
theorem dX3_readSemicolon_25 : decode cX3_readSemicolon 25 = .ok (.invokevirtual 81, 3) := by decide +kernel
theorem dX3_readSemicolon_28 : decode cX3_readSemicolon 28 = .ok (.ireturn, 1) := by decide +kernel
theorem dX3_readNumber_0 : decode cX3_readNumber 0 = .ok (.aload_n 0, 1) := by decide +kernel
theorem dX3_readNumber_1 : decode cX3_readNumber 1 = .ok (.getfield 15, 3) := by decide +kernel
theorem dX3_readNumber_4 : decode cX3_readNumber 4 = .ok (.invokevirtual 68, 3) := by decide +kernel
theorem dX3_readNumber_7 : decode cX3_readNumber 7 = .ok (.aload_n 0, 1) := by decide +kernel
theorem dX3_readNumber_8 : decode cX3_readNumber 8 = .ok (.aload_n 0, 1) := by decide +kernel
theorem dX3_readNumber_9 : decode cX3_readNumber 9 = .ok (.getfield 15, 3) := by decide +kernel
theorem dX3_readNumber_12 : decode cX3_readNumber 12 = .ok (.getfield 89, 3) := by decide +kernel
theorem dX3_readNumber_15 : decode cX3_readNumber 15 = .ok (.iconst 2, 1) := by decide +kernel
theorem dX3_readNumber_16 : decode cX3_readNumber 16 = .ok (.if_icmp .ne 7, 3) := by decide +kernel
theorem dX3_readNumber_19 : decode cX3_readNumber 19 = .ok (.iconst 1, 1) := by decide +kernel
theorem dX3_readNumber_20 : decode cX3_readNumber 20 = .ok (.goto 4, 3) := by decide +kernel
theorem dX3_readNumber_23 : decode cX3_readNumber 23 = .ok (.iconst 0, 1) := by decide +kernel
theorem dX3_readNumber_24 : decode cX3_readNumber 24 = .ok (.iconst 1, 1) := by decide +kernel
theorem dX3_readNumber_25 : decode cX3_readNumber 25 = .ok (.invokevirtual 81, 3) := by decide +kernel
theorem dX3_readNumber_28 : decode cX3_readNumber 28 = .ok (.ifCond .eq 42, 3) := by decide +kernel
theorem dX3_readNumber_31 : decode cX3_readNumber 31 = .ok (.aload_n 0, 1) := by decide +kernel
theorem dX3_readNumber_32 : decode cX3_readNumber 32 = .ok (.aload_n 0, 1) := by decide +kernel
theorem dX3_readNumber_33 : decode cX3_readNumber 33 = .ok (.getfield 15, 3) := by decide +kernel
theorem dX3_readNumber_36 : decode cX3_readNumber 36 = .ok (.getfield 51, 3) := by decide +kernel
theorem dX3_readNumber_39 : decode cX3_readNumber 39 = .ok (.iload_n 1, 1) := by decide +kernel
theorem dX3_readNumber_40 : decode cX3_readNumber 40 = .ok (.if_icmp .lt 18, 3) := by decide +kernel
theorem dX3_readNumber_43 : decode cX3_readNumber 43 = .ok (.aload_n 0, 1) := by decide +kernel
theorem dX3_readNumber_44 : decode cX3_readNumber 44 = .ok (.getfield 15, 3) := by decide +kernel
theorem dX3_readNumber_47 : decode cX3_readNumber 47 = .ok (.getfield 51, 3) := by decide +kernel
theorem dX3_readNumber_50 : decode cX3_readNumber 50 = .ok (.iload_n 2, 1) := by decide +kernel
theorem dX3_readNumber_51 : decode cX3_readNumber 51 = .ok (.if_icmp .gt 7, 3) := by decide +kernel
theorem dX3_readNumber_54 : decode cX3_readNumber 54 = .ok (.iconst 1, 1) := by decide +kernel
theorem dX3_readNumber_55 : decode cX3_readNumber 55 = .ok (.goto 4, 3) := by decide +kernel
theorem dX3_readNumber_58 : decode cX3_readNumber 58 = .ok (.iconst 0, 1) := by decide +kernel
theorem dX3_readNumber_59 : decode cX3_readNumber 59 = .ok (.iconst 2, 1) := by decide +kernel
theorem dX3_readNumber_60 : decode cX3_readNumber 60 = .ok (.invokevirtual 81, 3) := by decide +kernel
theorem dX3_readNumber_63 : decode cX3_readNumber 63 = .ok (.ifCond .eq 7, 3) := by decide +kernel
theorem dX3_readNumber_66 : decode cX3_readNumber 66 = .ok (.iconst 1, 1) := by decide +kernel
theorem dX3_readNumber_67 : decode cX3_readNumber 67 = .ok (.goto 4, 3) := by decide +kernel
theorem dX3_readNumber_70 : decode cX3_readNumber 70 = .ok (.iconst 0, 1) := by decide +kernel
theorem dX3_readNumber_71 : decode cX3_readNumber 71 = .ok (.ireturn, 1) := by decide +kernel
theorem dX3_accept_0 : decode cX3_accept 0 = .ok (.iload_n 1, 1) := by decide +kernel
theorem dX3_accept_1 : decode cX3_accept 1 = .ok (.ifCond .ne 8, 3) := by decide +kernel
theorem dX3_accept_4 : decode cX3_accept 4 = .ok (.aload_n 0, 1) := by decide +kernel
theorem dX3_accept_5 : decode cX3_accept 5 = .ok (.iload_n 2, 1) := by decide +kernel
theorem dX3_accept_6 : decode cX3_accept 6 = .ok (.putfield 9, 3) := by decide +kernel
theorem dX3_accept_9 : decode cX3_accept 9 = .ok (.iload_n 1, 1) := by decide +kernel
theorem dX3_accept_10 : decode cX3_accept 10 = .ok (.ireturn, 1) := by decide +kernel
theorem dX4_init_0 : decode cX4_init 0 = .ok (.aload_n 0, 1) := by decide +kernel
theorem dX4_init_1 : decode cX4_init 1 = .ok (.invokespecial 1, 3) := by decide +kernel
theorem dX4_init_4 : decode cX4_init 4 = .ok (.aload_n 0, 1) := by decide +kernel
theorem dX4_init_5 : decode cX4_init 5 = .ok (.iconst 0, 1) := by decide +kernel
theorem dX4_init_6 : decode cX4_init 6 = .ok (.putfield 7, 3) := by decide +kernel
theorem dX4_init_9 : decode cX4_init 9 = .ok (.aload_n 0, 1) := by decide +kernel
theorem dX4_init_10 : decode cX4_init 10 = .ok (.iconst 0, 1) := by decide +kernel
theorem dX4_init_11 : decode cX4_init 11 = .ok (.putfield 13, 3) := by decide +kernel
theorem dX4_init_14 : decode cX4_init 14 = .ok (.aload_n 0, 1) := by decide +kernel
theorem dX4_init_15 : decode cX4_init 15 = .ok (.iconst 0, 1) := by decide +kernel
theorem dX4_init_16 : decode cX4_init 16 = .ok (.putfield 16, 3) := by decide +kernel
theorem dX4_init_19 : decode cX4_init 19 = .ok (.aload_n 0, 1) := by decide +kernel
theorem dX4_init_20 : decode cX4_init 20 = .ok (.lconst 0, 1) := by decide +kernel
theorem dX4_init_21 : decode cX4_init 21 = .ok (.putfield 19, 3) := by decide +kernel
theorem dX4_init_24 : decode cX4_init 24 = .ok (.aload_n 0, 1) := by decide +kernel
theorem dX4_init_25 : decode cX4_init 25 = .ok (.lconst 0, 1) := by decide +kernel
theorem dX4_init_26 : decode cX4_init 26 = .ok (.putfield 23, 3) := by decide +kernel
theorem dX4_init_29 : decode cX4_init 29 = .ok (.aload_n 0, 1) := by decide +kernel
theorem dX4_init_30 : decode cX4_init 30 = .ok (.lconst 0, 1) := by decide +kernel
theorem dX4_init_31 : decode cX4_init 31 = .ok (.putfield 26, 3) := by decide +kernel
theorem dX4_init_34 : decode cX4_init 34 = .ok (.return_, 1) := by decide +kernel
theorem dX4_copyFrom_0 : decode cX4_copyFrom 0 = .ok (.aload_n 0, 1) := by decide +kernel
theorem dX4_copyFrom_1 : decode cX4_copyFrom 1 = .ok (.aload_n 1, 1) := by decide +kernel
theorem dX4_copyFrom_2 : decode cX4_copyFrom 2 = .ok (.getfield 7, 3) := by decide +kernel
theorem dX4_copyFrom_5 : decode cX4_copyFrom 5 = .ok (.putfield 7, 3) := by decide +kernel
theorem dX4_copyFrom_8 : decode cX4_copyFrom 8 = .ok (.aload_n 0, 1) := by decide +kernel
theorem dX4_copyFrom_9 : decode cX4_copyFrom 9 = .ok (.aload_n 1, 1) := by decide +kernel
theorem dX4_copyFrom_10 : decode cX4_copyFrom 10 = .ok (.getfield 13, 3) := by decide +kernel
theorem dX4_copyFrom_13 : decode cX4_copyFrom 13 = .ok (.putfield 13, 3) := by decide +kernel
theorem dX4_copyFrom_16 : decode cX4_copyFrom 16 = .ok (.aload_n 0, 1) := by decide +kernel
theorem dX4_copyFrom_17 : decode cX4_copyFrom 17 = .ok (.aload_n 1, 1) := by decide +kernel
theorem dX4_copyFrom_18 : decode cX4_copyFrom 18 = .ok (.getfield 16, 3) := by decide +kernel
theorem dX4_copyFrom_21 : decode cX4_copyFrom 21 = .ok (.putfield 16, 3) := by decide +kernel
theorem dX4_copyFrom_24 : decode cX4_copyFrom 24 = .ok (.aload_n 0, 1) := by decide +kernel
theorem dX4_copyFrom_25 : decode cX4_copyFrom 25 = .ok (.aload_n 1, 1) := by decide +kernel
theorem dX4_copyFrom_26 : decode cX4_copyFrom 26 = .ok (.getfield 19, 3) := by decide +kernel
theorem dX4_copyFrom_29 : decode cX4_copyFrom 29 = .ok (.putfield 19, 3) := by decide +kernel
theorem dX4_copyFrom_32 : decode cX4_copyFrom 32 = .ok (.aload_n 0, 1) := by decide +kernel
theorem dX4_copyFrom_33 : decode cX4_copyFrom 33 = .ok (.aload_n 1, 1) := by decide +kernel
theorem dX4_copyFrom_34 : decode cX4_copyFrom 34 = .ok (.getfield 23, 3) := by decide +kernel
theorem dX4_copyFrom_37 : decode cX4_copyFrom 37 = .ok (.putfield 23, 3) := by decide +kernel
theorem dX4_copyFrom_40 : decode cX4_copyFrom 40 = .ok (.aload_n 0, 1) := by decide +kernel
theorem dX4_copyFrom_41 : decode cX4_copyFrom 41 = .ok (.aload_n 1, 1) := by decide +kernel
theorem dX4_copyFrom_42 : decode cX4_copyFrom 42 = .ok (.getfield 26, 3) := by decide +kernel
theorem dX4_copyFrom_45 : decode cX4_copyFrom 45 = .ok (.putfield 26, 3) := by decide +kernel
theorem dX4_copyFrom_48 : decode cX4_copyFrom 48 = .ok (.return_, 1) := by decide +kernel
theorem dX5_init_0 : decode cX5_init 0 = .ok (.aload_n 0, 1) := by decide +kernel
theorem dX5_init_1 : decode cX5_init 1 = .ok (.invokespecial 3, 3) := by decide +kernel
theorem dX5_init_4 : decode cX5_init 4 = .ok (.aload_n 0, 1) := by decide +kernel
theorem dX5_init_5 : decode cX5_init 5 = .ok (.sipush 1300, 3) := by decide +kernel
theorem dX5_init_8 : decode cX5_init 8 = .ok (.newarray .byte, 2) := by decide +kernel
theorem dX5_init_10 : decode cX5_init 10 = .ok (.putfield 9, 3) := by decide +kernel
theorem dX5_init_13 : decode cX5_init 13 = .ok (.aload_n 0, 1) := by decide +kernel
theorem dX5_init_14 : decode cX5_init 14 = .ok (.iconst 0, 1) := by decide +kernel
theorem dX5_init_15 : decode cX5_init 15 = .ok (.putfield 15, 3) := by decide +kernel
theorem dX5_init_18 : decode cX5_init 18 = .ok (.aload_n 0, 1) := by decide +kernel
theorem dX5_init_19 : decode cX5_init 19 = .ok (.bipush 20, 2) := by decide +kernel
theorem dX5_init_21 : decode cX5_init 21 = .ok (.newarray .byte, 2) := by decide +kernel
theorem dX5_init_23 : decode cX5_init 23 = .ok (.putfield 19, 3) := by decide +kernel
theorem dX5_init_26 : decode cX5_init 26 = .ok (.return_, 1) := by decide +kernel
theorem dX5_write_0 : decode cX5_write 0 = .ok (.aload_n 0, 1) := by decide +kernel
theorem dX5_write_1 : decode cX5_write 1 = .ok (.iconst 0, 1) := by decide +kernel
theorem dX5_write_2 : decode cX5_write 2 = .ok (.putfield 15, 3) := by decide +kernel
theorem dX5_write_5 : decode cX5_write 5 = .ok (.aload_n 0, 1) := by decide +kernel
theorem dX5_write_6 : decode cX5_write 6 = .ok (.ldc 22, 2) := by decide +kernel
theorem dX5_write_8 : decode cX5_write 8 = .ok (.invokevirtual 24, 3) := by decide +kernel
theorem dX5_write_11 : decode cX5_write 11 = .ok (.aload_n 0, 1) := by decide +kernel
theorem dX5_write_12 : decode cX5_write 12 = .ok (.aload_n 1, 1) := by decide +kernel
theorem dX5_write_13 : decode cX5_write 13 = .ok (.getfield 28, 3) := by decide +kernel
theorem dX5_write_16 : decode cX5_write 16 = .ok (.i2l, 1) := by decide +kernel
theorem dX5_write_17 : decode cX5_write 17 = .ok (.invokevirtual 33, 3) := by decide +kernel
theorem dX5_write_20 : decode cX5_write 20 = .ok (.aload_n 0, 1) := by decide +kernel
theorem dX5_write_21 : decode cX5_write 21 = .ok (.ldc 37, 2) := by decide +kernel
theorem dX5_write_23 : decode cX5_write 23 = .ok (.invokevirtual 24, 3) := by decide +kernel
theorem dX5_write_26 : decode cX5_write 26 = .ok (.aload_n 0, 1) := by decide +kernel
theorem dX5_write_27 : decode cX5_write 27 = .ok (.aload_n 1, 1) := by decide +kernel
theorem dX5_write_28 : decode cX5_write 28 = .ok (.invokevirtual 39, 3) := by decide +kernel
theorem dX5_write_31 : decode cX5_write 31 = .ok (.invokevirtual 33, 3) := by decide +kernel
theorem dX5_write_34 : decode cX5_write 34 = .ok (.aload_n 0, 1) := by decide +kernel
theorem dX5_write_35 : decode cX5_write 35 = .ok (.ldc 43, 2) := by decide +kernel
theorem dX5_write_37 : decode cX5_write 37 = .ok (.invokevirtual 24, 3) := by decide +kernel
theorem dX5_write_40 : decode cX5_write 40 = .ok (.iconst 0, 1) := by decide +kernel
theorem dX5_write_41 : decode cX5_write 41 = .ok (.istore_n 2, 1) := by decide +kernel
theorem dX5_write_42 : decode cX5_write 42 = .ok (.iload_n 2, 1) := by decide +kernel
theorem dX5_write_43 : decode cX5_write 43 = .ok (.aload_n 1, 1) := by decide +kernel
theorem dX5_write_44 : decode cX5_write 44 = .ok (.getfield 45, 3) := by decide +kernel
theorem dX5_write_47 : decode cX5_write 47 = .ok (.if_icmp .ge 20, 3) := by decide +kernel
theorem dX5_write_50 : decode cX5_write 50 = .ok (.aload_n 0, 1) := by decide +kernel
theorem dX5_write_51 : decode cX5_write 51 = .ok (.aload_n 1, 1) := by decide +kernel
theorem dX5_write_52 : decode cX5_write 52 = .ok (.aload_n 1, 1) := by decide +kernel
theorem dX5_write_53 : decode cX5_write 53 = .ok (.getfield 48, 3) := by decide +kernel
theorem dX5_write_56 : decode cX5_write 56 = .ok (.iload_n 2, 1) := by decide +kernel
theorem dX5_write_57 : decode cX5_write 57 = .ok (.aaload, 1) := by decide +kernel
theorem dX5_write_58 : decode cX5_write 58 = .ok (.invokevirtual 52, 3) := by decide +kernel
theorem dX5_write_61 : decode cX5_write 61 = .ok (.iinc 2 1, 3) := by decide +kernel
theorem dX5_write_64 : decode cX5_write 64 = .ok (.goto (-22), 3) := by decide +kernel
theorem dX5_write_67 : decode cX5_write 67 = .ok (.return_, 1) := by decide +kernel
theorem dX5_writeSeries_0 : decode cX5_writeSeries 0 = .ok (.aload_n 0, 1) := by decide +kernel
theorem dX5_writeSeries_1 : decode cX5_writeSeries 1 = .ok (.ldc 56, 2) := by decide +kernel
theorem dX5_writeSeries_3 : decode cX5_writeSeries 3 = .ok (.invokevirtual 24, 3) := by decide +kernel
theorem dX5_writeSeries_6 : decode cX5_writeSeries 6 = .ok (.aload_n 0, 1) := by decide +kernel
theorem dX5_writeSeries_7 : decode cX5_writeSeries 7 = .ok (.aload_n 2, 1) := by decide +kernel
theorem dX5_writeSeries_8 : decode cX5_writeSeries 8 = .ok (.getfield 58, 3) := by decide +kernel
theorem dX5_writeSeries_11 : decode cX5_writeSeries 11 = .ok (.i2l, 1) := by decide +kernel
theorem dX5_writeSeries_12 : decode cX5_writeSeries 12 = .ok (.invokevirtual 33, 3) := by decide +kernel
theorem dX5_writeSeries_15 : decode cX5_writeSeries 15 = .ok (.aload_n 0, 1) := by decide +kernel
theorem dX5_writeSeries_16 : decode cX5_writeSeries 16 = .ok (.ldc 63, 2) := by decide +kernel
theorem dX5_writeSeries_18 : decode cX5_writeSeries 18 = .ok (.invokevirtual 24, 3) := by decide +kernel
theorem dX5_writeSeries_21 : decode cX5_writeSeries 21 = .ok (.aload_n 0, 1) := by decide +kernel
theorem dX5_writeSeries_22 : decode cX5_writeSeries 22 = .ok (.aload_n 2, 1) := by decide +kernel
theorem dX5_writeSeries_23 : decode cX5_writeSeries 23 = .ok (.aload_n 1, 1) := by decide +kernel
theorem dX5_writeSeries_24 : decode cX5_writeSeries 24 = .ok (.getfield 65, 3) := by decide +kernel
theorem dX5_writeSeries_27 : decode cX5_writeSeries 27 = .ok (.invokevirtual 68, 3) := by decide +kernel
theorem dX5_writeSeries_30 : decode cX5_writeSeries 30 = .ok (.invokevirtual 33, 3) := by decide +kernel
theorem dX5_writeSeries_33 : decode cX5_writeSeries 33 = .ok (.aload_n 0, 1) := by decide +kernel
theorem dX5_writeSeries_34 : decode cX5_writeSeries 34 = .ok (.ldc 63, 2) := by decide +kernel
theorem dX5_writeSeries_36 : decode cX5_writeSeries 36 = .ok (.invokevirtual 24, 3) := by decide +kernel
theorem dX5_writeSeries_39 : decode cX5_writeSeries 39 = .ok (.aload_n 0, 1) := by decide +kernel
theorem dX5_writeSeries_40 : decode cX5_writeSeries 40 = .ok (.aload_n 2, 1) := by decide +kernel
theorem dX5_writeSeries_41 : decode cX5_writeSeries 41 = .ok (.getfield 72, 3) := by decide +kernel
theorem dX5_writeSeries_44 : decode cX5_writeSeries 44 = .ok (.invokevirtual 33, 3) := by decide +kernel
theorem dX5_writeSeries_47 : decode cX5_writeSeries 47 = .ok (.iconst 0, 1) := by decide +kernel
theorem dX5_writeSeries_48 : decode cX5_writeSeries 48 = .ok (.istore_n 3, 1) := by decide +kernel
theorem dX5_writeSeries_49 : decode cX5_writeSeries 49 = .ok (.iload_n 3, 1) := by decide +kernel
theorem dX5_writeSeries_50 : decode cX5_writeSeries 50 = .ok (.aload_n 1, 1) := by decide +kernel
theorem dX5_writeSeries_51 : decode cX5_writeSeries 51 = .ok (.getfield 76, 3) := by decide +kernel
theorem dX5_writeSeries_54 : decode cX5_writeSeries 54 = .ok (.if_icmp .ge 51, 3) := by decide +kernel
theorem dX5_writeSeries_57 : decode cX5_writeSeries 57 = .ok (.aload_n 1, 1) := by decide +kernel
theorem dX5_writeSeries_58 : decode cX5_writeSeries 58 = .ok (.iload_n 3, 1) := by decide +kernel
theorem dX5_writeSeries_59 : decode cX5_writeSeries 59 = .ok (.aload_n 2, 1) := by decide +kernel
theorem dX5_writeSeries_60 : decode cX5_writeSeries 60 = .ok (.getfield 58, 3) := by decide +kernel
theorem dX5_writeSeries_63 : decode cX5_writeSeries 63 = .ok (.invokevirtual 79, 3) := by decide +kernel
theorem dX5_writeSeries_66 : decode cX5_writeSeries 66 = .ok (.lstore 4, 2) := by decide +kernel
theorem dX5_writeSeries_68 : decode cX5_writeSeries 68 = .ok (.lload 4, 2) := by decide +kernel
theorem dX5_writeSeries_70 : decode cX5_writeSeries 70 = .ok (.lconst 0, 1) := by decide +kernel
theorem dX5_writeSeries_71 : decode cX5_writeSeries 71 = .ok (.lcmp, 1) := by decide +kernel
theorem dX5_writeSeries_72 : decode cX5_writeSeries 72 = .ok (.ifCond .le 27, 3) := by decide +kernel
theorem dX5_writeSeries_75 : decode cX5_writeSeries 75 = .ok (.aload_n 0, 1) := by decide +kernel
theorem dX5_writeSeries_76 : decode cX5_writeSeries 76 = .ok (.ldc 63, 2) := by decide +kernel
theorem dX5_writeSeries_78 : decode cX5_writeSeries 78 = .ok (.invokevirtual 24, 3) := by decide +kernel
theorem dX5_writeSeries_81 : decode cX5_writeSeries 81 = .ok (.aload_n 0, 1) := by decide +kernel
theorem dX5_writeSeries_82 : decode cX5_writeSeries 82 = .ok (.iload_n 3, 1) := by decide +kernel
theorem dX5_writeSeries_83 : decode cX5_writeSeries 83 = .ok (.i2l, 1) := by decide +kernel
theorem dX5_writeSeries_84 : decode cX5_writeSeries 84 = .ok (.invokevirtual 33, 3) := by decide +kernel
theorem dX5_writeSeries_87 : decode cX5_writeSeries 87 = .ok (.aload_n 0, 1) := by decide +kernel
theorem dX5_writeSeries_88 : decode cX5_writeSeries 88 = .ok (.ldc 83, 2) := by decide +kernel
theorem dX5_writeSeries_90 : decode cX5_writeSeries 90 = .ok (.invokevirtual 24, 3) := by decide +kernel
theorem dX5_writeSeries_93 : decode cX5_writeSeries 93 = .ok (.aload_n 0, 1) := by decide +kernel
theorem dX5_writeSeries_94 : decode cX5_writeSeries 94 = .ok (.lload 4, 2) := by decide +kernel
theorem dX5_writeSeries_96 : decode cX5_writeSeries 96 = .ok (.invokevirtual 33, 3) := by decide +kernel
theorem dX5_writeSeries_99 : decode cX5_writeSeries 99 = .ok (.iinc 3 1, 3) := by decide +kernel
theorem dX5_writeSeries_102 : decode cX5_writeSeries 102 = .ok (.goto (-53), 3) := by decide +kernel
theorem dX5_writeSeries_105 : decode cX5_writeSeries 105 = .ok (.aload_n 0, 1) := by decide +kernel
theorem dX5_writeSeries_106 : decode cX5_writeSeries 106 = .ok (.ldc 43, 2) := by decide +kernel
theorem dX5_writeSeries_108 : decode cX5_writeSeries 108 = .ok (.invokevirtual 24, 3) := by decide +kernel
theorem dX5_writeSeries_111 : decode cX5_writeSeries 111 = .ok (.return_, 1) := by decide +kernel
theorem dX5_putText_0 : decode cX5_putText 0 = .ok (.iconst 0, 1) := by decide +kernel
theorem dX5_putText_1 : decode cX5_putText 1 = .ok (.istore_n 2, 1) := by decide +kernel
theorem dX5_putText_2 : decode cX5_putText 2 = .ok (.iload_n 2, 1) := by decide +kernel
theorem dX5_putText_3 : decode cX5_putText 3 = .ok (.aload_n 1, 1) := by decide +kernel
theorem dX5_putText_4 : decode cX5_putText 4 = .ok (.invokevirtual 85, 3) := by decide +kernel
theorem dX5_putText_7 : decode cX5_putText 7 = .ok (.if_icmp .ge 19, 3) := by decide +kernel
theorem dX5_putText_10 : decode cX5_putText 10 = .ok (.aload_n 0, 1) := by decide +kernel
theorem dX5_putText_11 : decode cX5_putText 11 = .ok (.aload_n 1, 1) := by decide +kernel
theorem dX5_putText_12 : decode cX5_putText 12 = .ok (.iload_n 2, 1) := by decide +kernel
theorem dX5_putText_13 : decode cX5_putText 13 = .ok (.invokevirtual 90, 3) := by decide +kernel
theorem dX5_putText_16 : decode cX5_putText 16 = .ok (.i2b, 1) := by decide +kernel
theorem dX5_putText_17 : decode cX5_putText 17 = .ok (.invokevirtual 94, 3) := by decide +kernel
theorem dX5_putText_20 : decode cX5_putText 20 = .ok (.iinc 2 1, 3) := by decide +kernel
theorem dX5_putText_23 : decode cX5_putText 23 = .ok (.goto (-21), 3) := by decide +kernel
theorem dX5_putText_26 : decode cX5_putText 26 = .ok (.return_, 1) := by decide +kernel
theorem dX5_putNumber_0 : decode cX5_putNumber 0 = .ok (.lload_n 1, 1) := by decide +kernel
theorem dX5_putNumber_1 : decode cX5_putNumber 1 = .ok (.lconst 0, 1) := by decide +kernel
theorem dX5_putNumber_2 : decode cX5_putNumber 2 = .ok (.lcmp, 1) := by decide +kernel
theorem dX5_putNumber_3 : decode cX5_putNumber 3 = .ok (.ifCond .ge 9, 3) := by decide +kernel
theorem dX5_putNumber_6 : decode cX5_putNumber 6 = .ok (.aload_n 0, 1) := by decide +kernel
theorem dX5_putNumber_7 : decode cX5_putNumber 7 = .ok (.ldc 98, 2) := by decide +kernel
theorem dX5_putNumber_9 : decode cX5_putNumber 9 = .ok (.invokevirtual 24, 3) := by decide +kernel
theorem dX5_putNumber_12 : decode cX5_putNumber 12 = .ok (.lload_n 1, 1) := by decide +kernel
theorem dX5_putNumber_13 : decode cX5_putNumber 13 = .ok (.lstore_n 3, 1) := by decide +kernel
theorem dX5_putNumber_14 : decode cX5_putNumber 14 = .ok (.bipush 20, 2) := by decide +kernel
theorem dX5_putNumber_16 : decode cX5_putNumber 16 = .ok (.istore 5, 2) := by decide +kernel
theorem dX5_putNumber_18 : decode cX5_putNumber 18 = .ok (.iinc 5 (-1), 3) := by decide +kernel
theorem dX5_putNumber_21 : decode cX5_putNumber 21 = .ok (.aload_n 0, 1) := by decide +kernel
theorem dX5_putNumber_22 : decode cX5_putNumber 22 = .ok (.getfield 19, 3) := by decide +kernel
theorem dX5_putNumber_25 : decode cX5_putNumber 25 = .ok (.iload 5, 2) := by decide +kernel
theorem dX5_putNumber_27 : decode cX5_putNumber 27 = .ok (.ldc2_w 100, 3) := by decide +kernel
theorem dX5_putNumber_30 : decode cX5_putNumber 30 = .ok (.lload_n 3, 1) := by decide +kernel
theorem dX5_putNumber_31 : decode cX5_putNumber 31 = .ok (.ldc2_w 102, 3) := by decide +kernel
theorem dX5_putNumber_34 : decode cX5_putNumber 34 = .ok (.lrem, 1) := by decide +kernel
theorem dX5_putNumber_35 : decode cX5_putNumber 35 = .ok (.invokestatic 104, 3) := by decide +kernel
theorem dX5_putNumber_38 : decode cX5_putNumber 38 = .ok (.ladd, 1) := by decide +kernel
theorem dX5_putNumber_39 : decode cX5_putNumber 39 = .ok (.l2i, 1) := by decide +kernel
theorem dX5_putNumber_40 : decode cX5_putNumber 40 = .ok (.i2b, 1) := by decide +kernel
theorem dX5_putNumber_41 : decode cX5_putNumber 41 = .ok (.bastore, 1) := by decide +kernel
theorem dX5_putNumber_42 : decode cX5_putNumber 42 = .ok (.lload_n 3, 1) := by decide +kernel
theorem dX5_putNumber_43 : decode cX5_putNumber 43 = .ok (.ldc2_w 102, 3) := by decide +kernel
theorem dX5_putNumber_46 : decode cX5_putNumber 46 = .ok (.ldiv, 1) := by decide +kernel
theorem dX5_putNumber_47 : decode cX5_putNumber 47 = .ok (.lstore_n 3, 1) := by decide +kernel
theorem dX5_putNumber_48 : decode cX5_putNumber 48 = .ok (.lload_n 3, 1) := by decide +kernel
theorem dX5_putNumber_49 : decode cX5_putNumber 49 = .ok (.lconst 0, 1) := by decide +kernel
theorem dX5_putNumber_50 : decode cX5_putNumber 50 = .ok (.lcmp, 1) := by decide +kernel
theorem dX5_putNumber_51 : decode cX5_putNumber 51 = .ok (.ifCond .eq 8, 3) := by decide +kernel
theorem dX5_putNumber_54 : decode cX5_putNumber 54 = .ok (.iload 5, 2) := by decide +kernel
theorem dX5_putNumber_56 : decode cX5_putNumber 56 = .ok (.ifCond .gt (-38), 3) := by decide +kernel
theorem dX5_putNumber_59 : decode cX5_putNumber 59 = .ok (.iload 5, 2) := by decide +kernel
theorem dX5_putNumber_61 : decode cX5_putNumber 61 = .ok (.istore 6, 2) := by decide +kernel
theorem dX5_putNumber_63 : decode cX5_putNumber 63 = .ok (.iload 6, 2) := by decide +kernel
theorem dX5_putNumber_65 : decode cX5_putNumber 65 = .ok (.bipush 20, 2) := by decide +kernel
theorem dX5_putNumber_67 : decode cX5_putNumber 67 = .ok (.if_icmp .ge 20, 3) := by decide +kernel
theorem dX5_putNumber_70 : decode cX5_putNumber 70 = .ok (.aload_n 0, 1) := by decide +kernel
theorem dX5_putNumber_71 : decode cX5_putNumber 71 = .ok (.aload_n 0, 1) := by decide +kernel
theorem dX5_putNumber_72 : decode cX5_putNumber 72 = .ok (.getfield 19, 3) := by decide +kernel
theorem dX5_putNumber_75 : decode cX5_putNumber 75 = .ok (.iload 6, 2) := by decide +kernel
theorem dX5_putNumber_77 : decode cX5_putNumber 77 = .ok (.baload, 1) := by decide +kernel
theorem dX5_putNumber_78 : decode cX5_putNumber 78 = .ok (.invokevirtual 94, 3) := by decide +kernel
theorem dX5_putNumber_81 : decode cX5_putNumber 81 = .ok (.iinc 6 1, 3) := by decide +kernel
theorem dX5_putNumber_84 : decode cX5_putNumber 84 = .ok (.goto (-21), 3) := by decide +kernel
theorem dX5_putNumber_87 : decode cX5_putNumber 87 = .ok (.return_, 1) := by decide +kernel
theorem dX5_putByte_0 : decode cX5_putByte 0 = .ok (.aload_n 0, 1) := by decide +kernel
theorem dX5_putByte_1 : decode cX5_putByte 1 = .ok (.getfield 15, 3) := by decide +kernel
theorem dX5_putByte_4 : decode cX5_putByte 4 = .ok (.sipush 1300, 3) := by decide +kernel
theorem dX5_putByte_7 : decode cX5_putByte 7 = .ok (.if_icmp .ge 23, 3) := by decide +kernel
theorem dX5_putByte_10 : decode cX5_putByte 10 = .ok (.aload_n 0, 1) := by decide +kernel
theorem dX5_putByte_11 : decode cX5_putByte 11 = .ok (.getfield 9, 3) := by decide +kernel
theorem dX5_putByte_14 : decode cX5_putByte 14 = .ok (.aload_n 0, 1) := by decide +kernel
theorem dX5_putByte_15 : decode cX5_putByte 15 = .ok (.getfield 15, 3) := by decide +kernel
theorem dX5_putByte_18 : decode cX5_putByte 18 = .ok (.iload_n 1, 1) := by decide +kernel
theorem dX5_putByte_19 : decode cX5_putByte 19 = .ok (.bastore, 1) := by decide +kernel
theorem dX5_putByte_20 : decode cX5_putByte 20 = .ok (.aload_n 0, 1) := by decide +kernel
theorem dX5_putByte_21 : decode cX5_putByte 21 = .ok (.dup, 1) := by decide +kernel
theorem dX5_putByte_22 : decode cX5_putByte 22 = .ok (.getfield 15, 3) := by decide +kernel
theorem dX5_putByte_25 : decode cX5_putByte 25 = .ok (.iconst 1, 1) := by decide +kernel
theorem dX5_putByte_26 : decode cX5_putByte 26 = .ok (.iadd, 1) := by decide +kernel
theorem dX5_putByte_27 : decode cX5_putByte 27 = .ok (.putfield 15, 3) := by decide +kernel
theorem dX5_putByte_30 : decode cX5_putByte 30 = .ok (.return_, 1) := by decide +kernel
theorem dX6_init_0 : decode cX6_init 0 = .ok (.aload_n 0, 1) := by decide +kernel
theorem dX6_init_1 : decode cX6_init 1 = .ok (.invokespecial 1, 3) := by decide +kernel
theorem dX6_init_4 : decode cX6_init 4 = .ok (.aload_n 0, 1) := by decide +kernel
theorem dX6_init_5 : decode cX6_init 5 = .ok (.iconst 0, 1) := by decide +kernel
theorem dX6_init_6 : decode cX6_init 6 = .ok (.putfield 7, 3) := by decide +kernel
theorem dX6_init_9 : decode cX6_init 9 = .ok (.aload_n 0, 1) := by decide +kernel
theorem dX6_init_10 : decode cX6_init 10 = .ok (.iconst 0, 1) := by decide +kernel
theorem dX6_init_11 : decode cX6_init 11 = .ok (.putfield 13, 3) := by decide +kernel
theorem dX6_init_14 : decode cX6_init 14 = .ok (.aload_n 0, 1) := by decide +kernel
theorem dX6_init_15 : decode cX6_init 15 = .ok (.iconst 0, 1) := by decide +kernel
theorem dX6_init_16 : decode cX6_init 16 = .ok (.putfield 16, 3) := by decide +kernel
theorem dX6_init_19 : decode cX6_init 19 = .ok (.aload_n 0, 1) := by decide +kernel
theorem dX6_init_20 : decode cX6_init 20 = .ok (.lconst 0, 1) := by decide +kernel
theorem dX6_init_21 : decode cX6_init 21 = .ok (.putfield 20, 3) := by decide +kernel
theorem dX6_init_24 : decode cX6_init 24 = .ok (.aload_n 0, 1) := by decide +kernel
theorem dX6_init_25 : decode cX6_init 25 = .ok (.lconst 0, 1) := by decide +kernel
theorem dX6_init_26 : decode cX6_init 26 = .ok (.putfield 24, 3) := by decide +kernel
theorem dX6_init_29 : decode cX6_init 29 = .ok (.return_, 1) := by decide +kernel
theorem dX6_copyFrom_0 : decode cX6_copyFrom 0 = .ok (.aload_n 0, 1) := by decide +kernel
theorem dX6_copyFrom_1 : decode cX6_copyFrom 1 = .ok (.aload_n 1, 1) := by decide +kernel
theorem dX6_copyFrom_2 : decode cX6_copyFrom 2 = .ok (.getfield 7, 3) := by decide +kernel
theorem dX6_copyFrom_5 : decode cX6_copyFrom 5 = .ok (.putfield 7, 3) := by decide +kernel
theorem dX6_copyFrom_8 : decode cX6_copyFrom 8 = .ok (.aload_n 0, 1) := by decide +kernel
theorem dX6_copyFrom_9 : decode cX6_copyFrom 9 = .ok (.aload_n 1, 1) := by decide +kernel
theorem dX6_copyFrom_10 : decode cX6_copyFrom 10 = .ok (.getfield 13, 3) := by decide +kernel
theorem dX6_copyFrom_13 : decode cX6_copyFrom 13 = .ok (.putfield 13, 3) := by decide +kernel
theorem dX6_copyFrom_16 : decode cX6_copyFrom 16 = .ok (.aload_n 0, 1) := by decide +kernel
theorem dX6_copyFrom_17 : decode cX6_copyFrom 17 = .ok (.aload_n 1, 1) := by decide +kernel
theorem dX6_copyFrom_18 : decode cX6_copyFrom 18 = .ok (.getfield 16, 3) := by decide +kernel
theorem dX6_copyFrom_21 : decode cX6_copyFrom 21 = .ok (.putfield 16, 3) := by decide +kernel
theorem dX6_copyFrom_24 : decode cX6_copyFrom 24 = .ok (.aload_n 0, 1) := by decide +kernel
theorem dX6_copyFrom_25 : decode cX6_copyFrom 25 = .ok (.aload_n 1, 1) := by decide +kernel
theorem dX6_copyFrom_26 : decode cX6_copyFrom 26 = .ok (.getfield 20, 3) := by decide +kernel
theorem dX6_copyFrom_29 : decode cX6_copyFrom 29 = .ok (.putfield 20, 3) := by decide +kernel
theorem dX6_copyFrom_32 : decode cX6_copyFrom 32 = .ok (.aload_n 0, 1) := by decide +kernel
theorem dX6_copyFrom_33 : decode cX6_copyFrom 33 = .ok (.aload_n 1, 1) := by decide +kernel
theorem dX6_copyFrom_34 : decode cX6_copyFrom 34 = .ok (.getfield 24, 3) := by decide +kernel
theorem dX6_copyFrom_37 : decode cX6_copyFrom 37 = .ok (.putfield 24, 3) := by decide +kernel
theorem dX6_copyFrom_40 : decode cX6_copyFrom 40 = .ok (.return_, 1) := by decide +kernel
theorem dX7_init_0 : decode cX7_init 0 = .ok (.aload_n 0, 1) := by decide +kernel
theorem dX7_init_1 : decode cX7_init 1 = .ok (.invokespecial 3, 3) := by decide +kernel
theorem dX7_init_4 : decode cX7_init 4 = .ok (.aload_n 0, 1) := by decide +kernel
theorem dX7_init_5 : decode cX7_init 5 = .ok (.iconst (-1), 1) := by decide +kernel
theorem dX7_init_6 : decode cX7_init 6 = .ok (.putfield 9, 3) := by decide +kernel
theorem dX7_init_9 : decode cX7_init 9 = .ok (.aload_n 0, 1) := by decide +kernel
theorem dX7_init_10 : decode cX7_init 10 = .ok (.iconst 0, 1) := by decide +kernel
theorem dX7_init_11 : decode cX7_init 11 = .ok (.putfield 15, 3) := by decide +kernel
theorem dX7_init_14 : decode cX7_init 14 = .ok (.aload_n 0, 1) := by decide +kernel
theorem dX7_init_15 : decode cX7_init 15 = .ok (.iconst 0, 1) := by decide +kernel
theorem dX7_init_16 : decode cX7_init 16 = .ok (.putfield 18, 3) := by decide +kernel
theorem dX7_init_19 : decode cX7_init 19 = .ok (.aload_n 0, 1) := by decide +kernel
theorem dX7_init_20 : decode cX7_init 20 = .ok (.aload_n 1, 1) := by decide +kernel
theorem dX7_init_21 : decode cX7_init 21 = .ok (.putfield 21, 3) := by decide +kernel
theorem dX7_init_24 : decode cX7_init 24 = .ok (.aload_n 0, 1) := by decide +kernel
theorem dX7_init_25 : decode cX7_init 25 = .ok (.aload_n 2, 1) := by decide +kernel
theorem dX7_init_26 : decode cX7_init 26 = .ok (.putfield 25, 3) := by decide +kernel
theorem dX7_init_29 : decode cX7_init 29 = .ok (.aload_n 0, 1) := by decide +kernel
theorem dX7_init_30 : decode cX7_init 30 = .ok (.aload_n 3, 1) := by decide +kernel
theorem dX7_init_31 : decode cX7_init 31 = .ok (.putfield 29, 3) := by decide +kernel
theorem dX7_init_34 : decode cX7_init 34 = .ok (.return_, 1) := by decide +kernel
theorem dX7_readOperation_0 : decode cX7_readOperation 0 = .ok (.aload_n 0, 1) := by decide +kernel
theorem dX7_readOperation_1 : decode cX7_readOperation 1 = .ok (.aload_n 0, 1) := by decide +kernel
theorem dX7_readOperation_2 : decode cX7_readOperation 2 = .ok (.invokevirtual 33, 3) := by decide +kernel
theorem dX7_readOperation_5 : decode cX7_readOperation 5 = .ok (.putfield 9, 3) := by decide +kernel
theorem dX7_readOperation_8 : decode cX7_readOperation 8 = .ok (.aload_n 0, 1) := by decide +kernel
theorem dX7_readOperation_9 : decode cX7_readOperation 9 = .ok (.getfield 9, 3) := by decide +kernel
theorem dX7_readOperation_12 : decode cX7_readOperation 12 = .ok (.iconst (-1), 1) := by decide +kernel
theorem dX7_readOperation_13 : decode cX7_readOperation 13 = .ok (.if_icmp .ne 5, 3) := by decide +kernel
theorem dX7_readOperation_16 : decode cX7_readOperation 16 = .ok (.iconst 0, 1) := by decide +kernel
theorem dX7_readOperation_17 : decode cX7_readOperation 17 = .ok (.ireturn, 1) := by decide +kernel
theorem dX7_readOperation_18 : decode cX7_readOperation 18 = .ok (.aload_n 0, 1) := by decide +kernel
theorem dX7_readOperation_19 : decode cX7_readOperation 19 = .ok (.getfield 9, 3) := by decide +kernel
theorem dX7_readOperation_22 : decode cX7_readOperation 22 = .ok (.invokestatic 37, 3) := by decide +kernel
theorem dX7_readOperation_25 : decode cX7_readOperation 25 = .ok (.istore_n 1, 1) := by decide +kernel
theorem dX7_readOperation_26 : decode cX7_readOperation 26 = .ok (.iload_n 1, 1) := by decide +kernel
theorem dX7_readOperation_27 : decode cX7_readOperation 27 = .ok (.ifCond .le 23, 3) := by decide +kernel
theorem dX7_readOperation_30 : decode cX7_readOperation 30 = .ok (.aload_n 0, 1) := by decide +kernel
theorem dX7_readOperation_31 : decode cX7_readOperation 31 = .ok (.invokevirtual 41, 3) := by decide +kernel
theorem dX7_readOperation_34 : decode cX7_readOperation 34 = .ok (.ifCond .ne 5, 3) := by decide +kernel
theorem dX7_readOperation_37 : decode cX7_readOperation 37 = .ok (.iconst 0, 1) := by decide +kernel
theorem dX7_readOperation_38 : decode cX7_readOperation 38 = .ok (.ireturn, 1) := by decide +kernel
theorem dX7_readOperation_39 : decode cX7_readOperation 39 = .ok (.aload_n 0, 1) := by decide +kernel
theorem dX7_readOperation_40 : decode cX7_readOperation 40 = .ok (.aload_n 0, 1) := by decide +kernel
theorem dX7_readOperation_41 : decode cX7_readOperation 41 = .ok (.getfield 21, 3) := by decide +kernel
theorem dX7_readOperation_44 : decode cX7_readOperation 44 = .ok (.getfield 45, 3) := by decide +kernel
theorem dX7_readOperation_47 : decode cX7_readOperation 47 = .ok (.putfield 15, 3) := by decide +kernel
theorem dX7_readOperation_50 : decode cX7_readOperation 50 = .ok (.iload_n 1, 1) := by decide +kernel
theorem dX7_readOperation_51 : decode cX7_readOperation 51 = .ok (.iconst 1, 1) := by decide +kernel
theorem dX7_readOperation_52 : decode cX7_readOperation 52 = .ok (.if_icmp .le 23, 3) := by decide +kernel
theorem dX7_readOperation_55 : decode cX7_readOperation 55 = .ok (.aload_n 0, 1) := by decide +kernel
theorem dX7_readOperation_56 : decode cX7_readOperation 56 = .ok (.invokevirtual 41, 3) := by decide +kernel
theorem dX7_readOperation_59 : decode cX7_readOperation 59 = .ok (.ifCond .ne 5, 3) := by decide +kernel
theorem dX7_readOperation_62 : decode cX7_readOperation 62 = .ok (.iconst 0, 1) := by decide +kernel
theorem dX7_readOperation_63 : decode cX7_readOperation 63 = .ok (.ireturn, 1) := by decide +kernel
theorem dX7_readOperation_64 : decode cX7_readOperation 64 = .ok (.aload_n 0, 1) := by decide +kernel
theorem dX7_readOperation_65 : decode cX7_readOperation 65 = .ok (.aload_n 0, 1) := by decide +kernel
theorem dX7_readOperation_66 : decode cX7_readOperation 66 = .ok (.getfield 21, 3) := by decide +kernel
theorem dX7_readOperation_69 : decode cX7_readOperation 69 = .ok (.getfield 45, 3) := by decide +kernel
theorem dX7_readOperation_72 : decode cX7_readOperation 72 = .ok (.putfield 18, 3) := by decide +kernel
theorem dX7_readOperation_75 : decode cX7_readOperation 75 = .ok (.aload_n 0, 1) := by decide +kernel
theorem dX7_readOperation_76 : decode cX7_readOperation 76 = .ok (.getfield 21, 3) := by decide +kernel
theorem dX7_readOperation_79 : decode cX7_readOperation 79 = .ok (.invokevirtual 50, 3) := by decide +kernel
theorem dX7_readOperation_82 : decode cX7_readOperation 82 = .ok (.aload_n 0, 1) := by decide +kernel
theorem dX7_readOperation_83 : decode cX7_readOperation 83 = .ok (.getfield 21, 3) := by decide +kernel
theorem dX7_readOperation_86 : decode cX7_readOperation 86 = .ok (.getfield 53, 3) := by decide +kernel
theorem dX7_readOperation_89 : decode cX7_readOperation 89 = .ok (.iconst 3, 1) := by decide +kernel
theorem dX7_readOperation_90 : decode cX7_readOperation 90 = .ok (.if_icmp .ne 7, 3) := by decide +kernel
theorem dX7_readOperation_93 : decode cX7_readOperation 93 = .ok (.iconst 1, 1) := by decide +kernel
theorem dX7_readOperation_94 : decode cX7_readOperation 94 = .ok (.goto 4, 3) := by decide +kernel
theorem dX7_readOperation_97 : decode cX7_readOperation 97 = .ok (.iconst 0, 1) := by decide +kernel
theorem dX7_readOperation_98 : decode cX7_readOperation 98 = .ok (.ireturn, 1) := by decide +kernel
theorem dX7_readNumber_0 : decode cX7_readNumber 0 = .ok (.aload_n 0, 1) := by decide +kernel
theorem dX7_readNumber_1 : decode cX7_readNumber 1 = .ok (.getfield 21, 3) := by decide +kernel
theorem dX7_readNumber_4 : decode cX7_readNumber 4 = .ok (.invokevirtual 50, 3) := by decide +kernel
theorem dX7_readNumber_7 : decode cX7_readNumber 7 = .ok (.aload_n 0, 1) := by decide +kernel
theorem dX7_readNumber_8 : decode cX7_readNumber 8 = .ok (.getfield 21, 3) := by decide +kernel
theorem dX7_readNumber_11 : decode cX7_readNumber 11 = .ok (.getfield 53, 3) := by decide +kernel
theorem dX7_readNumber_14 : decode cX7_readNumber 14 = .ok (.iconst 2, 1) := by decide +kernel
theorem dX7_readNumber_15 : decode cX7_readNumber 15 = .ok (.if_icmp .ne 18, 3) := by decide +kernel
theorem dX7_readNumber_18 : decode cX7_readNumber 18 = .ok (.aload_n 0, 1) := by decide +kernel
theorem dX7_readNumber_19 : decode cX7_readNumber 19 = .ok (.getfield 21, 3) := by decide +kernel
theorem dX7_readNumber_22 : decode cX7_readNumber 22 = .ok (.getfield 45, 3) := by decide +kernel
theorem dX7_readNumber_25 : decode cX7_readNumber 25 = .ok (.iconst (-1), 1) := by decide +kernel
theorem dX7_readNumber_26 : decode cX7_readNumber 26 = .ok (.if_icmp .eq 7, 3) := by decide +kernel
theorem dX7_readNumber_29 : decode cX7_readNumber 29 = .ok (.iconst 1, 1) := by decide +kernel
theorem dX7_readNumber_30 : decode cX7_readNumber 30 = .ok (.goto 4, 3) := by decide +kernel
theorem dX7_readNumber_33 : decode cX7_readNumber 33 = .ok (.iconst 0, 1) := by decide +kernel
theorem dX7_readNumber_34 : decode cX7_readNumber 34 = .ok (.ireturn, 1) := by decide +kernel
theorem dX7_operationOfWord_0 : decode cX7_operationOfWord 0 = .ok (.aload_n 0, 1) := by decide +kernel
theorem dX7_operationOfWord_1 : decode cX7_operationOfWord 1 = .ok (.getfield 21, 3) := by decide +kernel
theorem dX7_operationOfWord_4 : decode cX7_operationOfWord 4 = .ok (.ldc 56, 2) := by decide +kernel
theorem dX7_operationOfWord_6 : decode cX7_operationOfWord 6 = .ok (.invokevirtual 58, 3) := by decide +kernel
theorem dX7_operationOfWord_9 : decode cX7_operationOfWord 9 = .ok (.ifCond .eq 5, 3) := by decide +kernel
theorem dX7_operationOfWord_12 : decode cX7_operationOfWord 12 = .ok (.iconst 0, 1) := by decide +kernel
theorem dX7_operationOfWord_13 : decode cX7_operationOfWord 13 = .ok (.ireturn, 1) := by decide +kernel
theorem dX7_operationOfWord_14 : decode cX7_operationOfWord 14 = .ok (.aload_n 0, 1) := by decide +kernel
theorem dX7_operationOfWord_15 : decode cX7_operationOfWord 15 = .ok (.getfield 21, 3) := by decide +kernel
theorem dX7_operationOfWord_18 : decode cX7_operationOfWord 18 = .ok (.ldc 62, 2) := by decide +kernel
theorem dX7_operationOfWord_20 : decode cX7_operationOfWord 20 = .ok (.invokevirtual 58, 3) := by decide +kernel
theorem dX7_operationOfWord_23 : decode cX7_operationOfWord 23 = .ok (.ifCond .eq 5, 3) := by decide +kernel
theorem dX7_operationOfWord_26 : decode cX7_operationOfWord 26 = .ok (.iconst 1, 1) := by decide +kernel
theorem dX7_operationOfWord_27 : decode cX7_operationOfWord 27 = .ok (.ireturn, 1) := by decide +kernel
theorem dX7_operationOfWord_28 : decode cX7_operationOfWord 28 = .ok (.aload_n 0, 1) := by decide +kernel
theorem dX7_operationOfWord_29 : decode cX7_operationOfWord 29 = .ok (.getfield 21, 3) := by decide +kernel
theorem dX7_operationOfWord_32 : decode cX7_operationOfWord 32 = .ok (.ldc 64, 2) := by decide +kernel
theorem dX7_operationOfWord_34 : decode cX7_operationOfWord 34 = .ok (.invokevirtual 58, 3) := by decide +kernel
theorem dX7_operationOfWord_37 : decode cX7_operationOfWord 37 = .ok (.ifCond .eq 5, 3) := by decide +kernel
theorem dX7_operationOfWord_40 : decode cX7_operationOfWord 40 = .ok (.iconst 2, 1) := by decide +kernel
theorem dX7_operationOfWord_41 : decode cX7_operationOfWord 41 = .ok (.ireturn, 1) := by decide +kernel
theorem dX7_operationOfWord_42 : decode cX7_operationOfWord 42 = .ok (.aload_n 0, 1) := by decide +kernel
theorem dX7_operationOfWord_43 : decode cX7_operationOfWord 43 = .ok (.getfield 21, 3) := by decide +kernel
theorem dX7_operationOfWord_46 : decode cX7_operationOfWord 46 = .ok (.ldc 66, 2) := by decide +kernel
theorem dX7_operationOfWord_48 : decode cX7_operationOfWord 48 = .ok (.invokevirtual 58, 3) := by decide +kernel
theorem dX7_operationOfWord_51 : decode cX7_operationOfWord 51 = .ok (.ifCond .eq 5, 3) := by decide +kernel
theorem dX7_operationOfWord_54 : decode cX7_operationOfWord 54 = .ok (.iconst 3, 1) := by decide +kernel
theorem dX7_operationOfWord_55 : decode cX7_operationOfWord 55 = .ok (.ireturn, 1) := by decide +kernel
theorem dX7_operationOfWord_56 : decode cX7_operationOfWord 56 = .ok (.aload_n 0, 1) := by decide +kernel
theorem dX7_operationOfWord_57 : decode cX7_operationOfWord 57 = .ok (.getfield 21, 3) := by decide +kernel
theorem dX7_operationOfWord_60 : decode cX7_operationOfWord 60 = .ok (.ldc 68, 2) := by decide +kernel
theorem dX7_operationOfWord_62 : decode cX7_operationOfWord 62 = .ok (.invokevirtual 58, 3) := by decide +kernel
theorem dX7_operationOfWord_65 : decode cX7_operationOfWord 65 = .ok (.ifCond .eq 5, 3) := by decide +kernel
theorem dX7_operationOfWord_68 : decode cX7_operationOfWord 68 = .ok (.iconst 4, 1) := by decide +kernel
theorem dX7_operationOfWord_69 : decode cX7_operationOfWord 69 = .ok (.ireturn, 1) := by decide +kernel
theorem dX7_operationOfWord_70 : decode cX7_operationOfWord 70 = .ok (.aload_n 0, 1) := by decide +kernel
theorem dX7_operationOfWord_71 : decode cX7_operationOfWord 71 = .ok (.getfield 21, 3) := by decide +kernel
theorem dX7_operationOfWord_74 : decode cX7_operationOfWord 74 = .ok (.ldc 70, 2) := by decide +kernel
theorem dX7_operationOfWord_76 : decode cX7_operationOfWord 76 = .ok (.invokevirtual 58, 3) := by decide +kernel
theorem dX7_operationOfWord_79 : decode cX7_operationOfWord 79 = .ok (.ifCond .eq 5, 3) := by decide +kernel
theorem dX7_operationOfWord_82 : decode cX7_operationOfWord 82 = .ok (.iconst 5, 1) := by decide +kernel
theorem dX7_operationOfWord_83 : decode cX7_operationOfWord 83 = .ok (.ireturn, 1) := by decide +kernel
theorem dX7_operationOfWord_84 : decode cX7_operationOfWord 84 = .ok (.aload_n 0, 1) := by decide +kernel
theorem dX7_operationOfWord_85 : decode cX7_operationOfWord 85 = .ok (.getfield 21, 3) := by decide +kernel
theorem dX7_operationOfWord_88 : decode cX7_operationOfWord 88 = .ok (.ldc 72, 2) := by decide +kernel
theorem dX7_operationOfWord_90 : decode cX7_operationOfWord 90 = .ok (.invokevirtual 58, 3) := by decide +kernel
theorem dX7_operationOfWord_93 : decode cX7_operationOfWord 93 = .ok (.ifCond .eq 6, 3) := by decide +kernel
theorem dX7_operationOfWord_96 : decode cX7_operationOfWord 96 = .ok (.bipush 6, 2) := by decide +kernel
theorem dX7_operationOfWord_98 : decode cX7_operationOfWord 98 = .ok (.ireturn, 1) := by decide +kernel
theorem dX7_operationOfWord_99 : decode cX7_operationOfWord 99 = .ok (.aload_n 0, 1) := by decide +kernel
theorem dX7_operationOfWord_100 : decode cX7_operationOfWord 100 = .ok (.getfield 21, 3) := by decide +kernel
theorem dX7_operationOfWord_103 : decode cX7_operationOfWord 103 = .ok (.ldc 74, 2) := by decide +kernel
theorem dX7_operationOfWord_105 : decode cX7_operationOfWord 105 = .ok (.invokevirtual 58, 3) := by decide +kernel
theorem dX7_operationOfWord_108 : decode cX7_operationOfWord 108 = .ok (.ifCond .eq 8, 3) := by decide +kernel
theorem dX7_operationOfWord_111 : decode cX7_operationOfWord 111 = .ok (.bipush 7, 2) := by decide +kernel
theorem dX7_operationOfWord_113 : decode cX7_operationOfWord 113 = .ok (.goto 4, 3) := by decide +kernel
theorem dX7_operationOfWord_116 : decode cX7_operationOfWord 116 = .ok (.iconst (-1), 1) := by decide +kernel
theorem dX7_operationOfWord_117 : decode cX7_operationOfWord 117 = .ok (.ireturn, 1) := by decide +kernel
theorem dX7_numbersOf_0 : decode cX7_numbersOf 0 = .ok (.iload_n 0, 1) := by decide +kernel
theorem dX7_numbersOf_1 : decode cX7_numbersOf 1 = .ok (.ifCond .eq 8, 3) := by decide +kernel
theorem dX7_numbersOf_4 : decode cX7_numbersOf 4 = .ok (.iload_n 0, 1) := by decide +kernel
theorem dX7_numbersOf_5 : decode cX7_numbersOf 5 = .ok (.iconst 1, 1) := by decide +kernel
theorem dX7_numbersOf_6 : decode cX7_numbersOf 6 = .ok (.if_icmp .ne 5, 3) := by decide +kernel
theorem dX7_numbersOf_9 : decode cX7_numbersOf 9 = .ok (.iconst 2, 1) := by decide +kernel
theorem dX7_numbersOf_10 : decode cX7_numbersOf 10 = .ok (.ireturn, 1) := by decide +kernel
theorem dX7_numbersOf_11 : decode cX7_numbersOf 11 = .ok (.iload_n 0, 1) := by decide +kernel
theorem dX7_numbersOf_12 : decode cX7_numbersOf 12 = .ok (.iconst 3, 1) := by decide +kernel
theorem dX7_numbersOf_13 : decode cX7_numbersOf 13 = .ok (.if_icmp .eq 13, 3) := by decide +kernel
theorem dX7_numbersOf_16 : decode cX7_numbersOf 16 = .ok (.iload_n 0, 1) := by decide +kernel
theorem dX7_numbersOf_17 : decode cX7_numbersOf 17 = .ok (.iconst 4, 1) := by decide +kernel
theorem dX7_numbersOf_18 : decode cX7_numbersOf 18 = .ok (.if_icmp .eq 8, 3) := by decide +kernel
theorem dX7_numbersOf_21 : decode cX7_numbersOf 21 = .ok (.iload_n 0, 1) := by decide +kernel
theorem dX7_numbersOf_22 : decode cX7_numbersOf 22 = .ok (.iconst 5, 1) := by decide +kernel
theorem dX7_numbersOf_23 : decode cX7_numbersOf 23 = .ok (.if_icmp .ne 7, 3) := by decide +kernel
theorem dX7_numbersOf_26 : decode cX7_numbersOf 26 = .ok (.iconst 1, 1) := by decide +kernel
theorem dX7_numbersOf_27 : decode cX7_numbersOf 27 = .ok (.goto 4, 3) := by decide +kernel
theorem dX7_numbersOf_30 : decode cX7_numbersOf 30 = .ok (.iconst 0, 1) := by decide +kernel
theorem dX7_numbersOf_31 : decode cX7_numbersOf 31 = .ok (.ireturn, 1) := by decide +kernel
theorem dX7_execute_0 : decode cX7_execute 0 = .ok (.aload_n 0, 1) := by decide +kernel
theorem dX7_execute_1 : decode cX7_execute 1 = .ok (.invokevirtual 76, 3) := by decide +kernel
theorem dX7_execute_4 : decode cX7_execute 4 = .ok (.ifCond .eq 5, 3) := by decide +kernel
theorem dX7_execute_7 : decode cX7_execute 7 = .ok (.iconst 0, 1) := by decide +kernel
theorem dX7_execute_8 : decode cX7_execute 8 = .ok (.ireturn, 1) := by decide +kernel
theorem dX7_execute_9 : decode cX7_execute 9 = .ok (.aload_n 0, 1) := by decide +kernel
theorem dX7_execute_10 : decode cX7_execute 10 = .ok (.getfield 9, 3) := by decide +kernel
theorem dX7_execute_13 : decode cX7_execute 13 = .ok (.tableswitch 157 0 6 #[43, 64, 85, 100, 115, 131, 146], 43) := by decide +kernel
theorem dX7_execute_56 : decode cX7_execute 56 = .ok (.aload_n 0, 1) := by decide +kernel
theorem dX7_execute_57 : decode cX7_execute 57 = .ok (.getfield 25, 3) := by decide +kernel
theorem dX7_execute_60 : decode cX7_execute 60 = .ok (.aload_n 0, 1) := by decide +kernel
theorem dX7_execute_61 : decode cX7_execute 61 = .ok (.getfield 15, 3) := by decide +kernel
theorem dX7_execute_64 : decode cX7_execute 64 = .ok (.iconst 0, 1) := by decide +kernel
theorem dX7_execute_65 : decode cX7_execute 65 = .ok (.aload_n 0, 1) := by decide +kernel
theorem dX7_execute_66 : decode cX7_execute 66 = .ok (.getfield 18, 3) := by decide +kernel
theorem dX7_execute_69 : decode cX7_execute 69 = .ok (.i2l, 1) := by decide +kernel
theorem dX7_execute_70 : decode cX7_execute 70 = .ok (.invokevirtual 79, 3) := by decide +kernel
theorem dX7_execute_73 : decode cX7_execute 73 = .ok (.pop, 1) := by decide +kernel
theorem dX7_execute_74 : decode cX7_execute 74 = .ok (.goto 104, 3) := by decide +kernel
theorem dX7_execute_77 : decode cX7_execute 77 = .ok (.aload_n 0, 1) := by decide +kernel
theorem dX7_execute_78 : decode cX7_execute 78 = .ok (.getfield 25, 3) := by decide +kernel
theorem dX7_execute_81 : decode cX7_execute 81 = .ok (.aload_n 0, 1) := by decide +kernel
theorem dX7_execute_82 : decode cX7_execute 82 = .ok (.getfield 15, 3) := by decide +kernel
theorem dX7_execute_85 : decode cX7_execute 85 = .ok (.iconst 1, 1) := by decide +kernel
theorem dX7_execute_86 : decode cX7_execute 86 = .ok (.aload_n 0, 1) := by decide +kernel
theorem dX7_execute_87 : decode cX7_execute 87 = .ok (.getfield 18, 3) := by decide +kernel
theorem dX7_execute_90 : decode cX7_execute 90 = .ok (.i2l, 1) := by decide +kernel
theorem dX7_execute_91 : decode cX7_execute 91 = .ok (.invokevirtual 79, 3) := by decide +kernel
theorem dX7_execute_94 : decode cX7_execute 94 = .ok (.pop, 1) := by decide +kernel
theorem dX7_execute_95 : decode cX7_execute 95 = .ok (.goto 83, 3) := by decide +kernel
theorem dX7_execute_98 : decode cX7_execute 98 = .ok (.aload_n 0, 1) := by decide +kernel
theorem dX7_execute_99 : decode cX7_execute 99 = .ok (.getfield 29, 3) := by decide +kernel
theorem dX7_execute_102 : decode cX7_execute 102 = .ok (.aload_n 0, 1) := by decide +kernel
theorem dX7_execute_103 : decode cX7_execute 103 = .ok (.getfield 25, 3) := by decide +kernel
theorem dX7_execute_106 : decode cX7_execute 106 = .ok (.invokevirtual 85, 3) := by decide +kernel
theorem dX7_execute_109 : decode cX7_execute 109 = .ok (.pop, 1) := by decide +kernel
theorem dX7_execute_110 : decode cX7_execute 110 = .ok (.goto 68, 3) := by decide +kernel
theorem dX7_execute_113 : decode cX7_execute 113 = .ok (.aload_n 0, 1) := by decide +kernel
theorem dX7_execute_114 : decode cX7_execute 114 = .ok (.getfield 25, 3) := by decide +kernel
theorem dX7_execute_117 : decode cX7_execute 117 = .ok (.aload_n 0, 1) := by decide +kernel
theorem dX7_execute_118 : decode cX7_execute 118 = .ok (.getfield 15, 3) := by decide +kernel
theorem dX7_execute_121 : decode cX7_execute 121 = .ok (.invokestatic 91, 3) := by decide +kernel
theorem dX7_execute_124 : decode cX7_execute 124 = .ok (.pop2, 1) := by decide +kernel
theorem dX7_execute_125 : decode cX7_execute 125 = .ok (.goto 53, 3) := by decide +kernel
theorem dX7_execute_128 : decode cX7_execute 128 = .ok (.aload_n 0, 1) := by decide +kernel
theorem dX7_execute_129 : decode cX7_execute 129 = .ok (.getfield 25, 3) := by decide +kernel
theorem dX7_execute_132 : decode cX7_execute 132 = .ok (.aload_n 0, 1) := by decide +kernel
theorem dX7_execute_133 : decode cX7_execute 133 = .ok (.getfield 15, 3) := by decide +kernel
theorem dX7_execute_136 : decode cX7_execute 136 = .ok (.ineg, 1) := by decide +kernel
theorem dX7_execute_137 : decode cX7_execute 137 = .ok (.invokestatic 91, 3) := by decide +kernel
theorem dX7_execute_140 : decode cX7_execute 140 = .ok (.pop2, 1) := by decide +kernel
theorem dX7_execute_141 : decode cX7_execute 141 = .ok (.goto 37, 3) := by decide +kernel
theorem dX7_execute_144 : decode cX7_execute 144 = .ok (.aload_n 0, 1) := by decide +kernel
theorem dX7_execute_145 : decode cX7_execute 145 = .ok (.getfield 25, 3) := by decide +kernel
theorem dX7_execute_148 : decode cX7_execute 148 = .ok (.aload_n 0, 1) := by decide +kernel
theorem dX7_execute_149 : decode cX7_execute 149 = .ok (.getfield 15, 3) := by decide +kernel
theorem dX7_execute_152 : decode cX7_execute 152 = .ok (.invokestatic 97, 3) := by decide +kernel
theorem dX7_execute_155 : decode cX7_execute 155 = .ok (.pop2, 1) := by decide +kernel
theorem dX7_execute_156 : decode cX7_execute 156 = .ok (.goto 22, 3) := by decide +kernel
theorem dX7_execute_159 : decode cX7_execute 159 = .ok (.aload_n 0, 1) := by decide +kernel
theorem dX7_execute_160 : decode cX7_execute 160 = .ok (.getfield 25, 3) := by decide +kernel
theorem dX7_execute_163 : decode cX7_execute 163 = .ok (.invokestatic 100, 3) := by decide +kernel
theorem dX7_execute_166 : decode cX7_execute 166 = .ok (.pop2, 1) := by decide +kernel
theorem dX7_execute_167 : decode cX7_execute 167 = .ok (.goto 11, 3) := by decide +kernel
theorem dX7_execute_170 : decode cX7_execute 170 = .ok (.aload_n 0, 1) := by decide +kernel
theorem dX7_execute_171 : decode cX7_execute 171 = .ok (.getfield 25, 3) := by decide +kernel
theorem dX7_execute_174 : decode cX7_execute 174 = .ok (.invokestatic 104, 3) := by decide +kernel
theorem dX7_execute_177 : decode cX7_execute 177 = .ok (.pop, 1) := by decide +kernel
theorem dX7_execute_178 : decode cX7_execute 178 = .ok (.iconst 1, 1) := by decide +kernel
theorem dX7_execute_179 : decode cX7_execute 179 = .ok (.ireturn, 1) := by decide +kernel
theorem dX7_fault_0 : decode cX7_fault 0 = .ok (.aload_n 0, 1) := by decide +kernel
theorem dX7_fault_1 : decode cX7_fault 1 = .ok (.getfield 9, 3) := by decide +kernel
theorem dX7_fault_4 : decode cX7_fault 4 = .ok (.tableswitch 105 0 5 #[40, 56, 105, 72, 84, 97], 40) := by decide +kernel
theorem dX7_fault_44 : decode cX7_fault 44 = .ok (.aload_n 0, 1) := by decide +kernel
theorem dX7_fault_45 : decode cX7_fault 45 = .ok (.getfield 25, 3) := by decide +kernel
theorem dX7_fault_48 : decode cX7_fault 48 = .ok (.aload_n 0, 1) := by decide +kernel
theorem dX7_fault_49 : decode cX7_fault 49 = .ok (.getfield 15, 3) := by decide +kernel
theorem dX7_fault_52 : decode cX7_fault 52 = .ok (.aload_n 0, 1) := by decide +kernel
theorem dX7_fault_53 : decode cX7_fault 53 = .ok (.getfield 18, 3) := by decide +kernel
theorem dX7_fault_56 : decode cX7_fault 56 = .ok (.invokevirtual 107, 3) := by decide +kernel
theorem dX7_fault_59 : decode cX7_fault 59 = .ok (.ireturn, 1) := by decide +kernel
theorem dX7_fault_60 : decode cX7_fault 60 = .ok (.aload_n 0, 1) := by decide +kernel
theorem dX7_fault_61 : decode cX7_fault 61 = .ok (.getfield 25, 3) := by decide +kernel
theorem dX7_fault_64 : decode cX7_fault 64 = .ok (.aload_n 0, 1) := by decide +kernel
theorem dX7_fault_65 : decode cX7_fault 65 = .ok (.getfield 15, 3) := by decide +kernel
theorem dX7_fault_68 : decode cX7_fault 68 = .ok (.aload_n 0, 1) := by decide +kernel
theorem dX7_fault_69 : decode cX7_fault 69 = .ok (.getfield 18, 3) := by decide +kernel
theorem dX7_fault_72 : decode cX7_fault 72 = .ok (.invokevirtual 111, 3) := by decide +kernel
theorem dX7_fault_75 : decode cX7_fault 75 = .ok (.ireturn, 1) := by decide +kernel
theorem dX7_fault_76 : decode cX7_fault 76 = .ok (.aload_n 0, 1) := by decide +kernel
theorem dX7_fault_77 : decode cX7_fault 77 = .ok (.getfield 25, 3) := by decide +kernel
theorem dX7_fault_80 : decode cX7_fault 80 = .ok (.aload_n 0, 1) := by decide +kernel
theorem dX7_fault_81 : decode cX7_fault 81 = .ok (.getfield 15, 3) := by decide +kernel
theorem dX7_fault_84 : decode cX7_fault 84 = .ok (.invokestatic 114, 3) := by decide +kernel
theorem dX7_fault_87 : decode cX7_fault 87 = .ok (.ireturn, 1) := by decide +kernel
theorem dX7_fault_88 : decode cX7_fault 88 = .ok (.aload_n 0, 1) := by decide +kernel
theorem dX7_fault_89 : decode cX7_fault 89 = .ok (.getfield 25, 3) := by decide +kernel
theorem dX7_fault_92 : decode cX7_fault 92 = .ok (.aload_n 0, 1) := by decide +kernel
theorem dX7_fault_93 : decode cX7_fault 93 = .ok (.getfield 15, 3) := by decide +kernel
theorem dX7_fault_96 : decode cX7_fault 96 = .ok (.ineg, 1) := by decide +kernel
theorem dX7_fault_97 : decode cX7_fault 97 = .ok (.invokestatic 114, 3) := by decide +kernel
theorem dX7_fault_100 : decode cX7_fault 100 = .ok (.ireturn, 1) := by decide +kernel
theorem dX7_fault_101 : decode cX7_fault 101 = .ok (.aload_n 0, 1) := by decide +kernel
theorem dX7_fault_102 : decode cX7_fault 102 = .ok (.getfield 15, 3) := by decide +kernel
theorem dX7_fault_105 : decode cX7_fault 105 = .ok (.invokestatic 118, 3) := by decide +kernel
theorem dX7_fault_108 : decode cX7_fault 108 = .ok (.ireturn, 1) := by decide +kernel
theorem dX7_fault_109 : decode cX7_fault 109 = .ok (.iconst 0, 1) := by decide +kernel
theorem dX7_fault_110 : decode cX7_fault 110 = .ok (.ireturn, 1) := by decide +kernel
theorem dX8_init_0 : decode cX8_init 0 = .ok (.aload_n 0, 1) := by decide +kernel
theorem dX8_init_1 : decode cX8_init 1 = .ok (.invokespecial 3, 3) := by decide +kernel
theorem dX8_init_4 : decode cX8_init 4 = .ok (.aload_n 0, 1) := by decide +kernel
theorem dX8_init_5 : decode cX8_init 5 = .ok (.iconst 0, 1) := by decide +kernel
theorem dX8_init_6 : decode cX8_init 6 = .ok (.putfield 9, 3) := by decide +kernel
theorem dX8_init_9 : decode cX8_init 9 = .ok (.aload_n 0, 1) := by decide +kernel
theorem dX8_init_10 : decode cX8_init 10 = .ok (.iconst 0, 1) := by decide +kernel
theorem dX8_init_11 : decode cX8_init 11 = .ok (.putfield 15, 3) := by decide +kernel
theorem dX8_init_14 : decode cX8_init 14 = .ok (.aload_n 0, 1) := by decide +kernel
theorem dX8_init_15 : decode cX8_init 15 = .ok (.lconst 0, 1) := by decide +kernel
theorem dX8_init_16 : decode cX8_init 16 = .ok (.putfield 18, 3) := by decide +kernel
theorem dX8_init_19 : decode cX8_init 19 = .ok (.aload_n 0, 1) := by decide +kernel
theorem dX8_init_20 : decode cX8_init 20 = .ok (.lconst 0, 1) := by decide +kernel
theorem dX8_init_21 : decode cX8_init 21 = .ok (.putfield 22, 3) := by decide +kernel
theorem dX8_init_24 : decode cX8_init 24 = .ok (.aload_n 0, 1) := by decide +kernel
theorem dX8_init_25 : decode cX8_init 25 = .ok (.ldc2_w 25, 3) := by decide +kernel
theorem dX8_init_28 : decode cX8_init 28 = .ok (.putfield 27, 3) := by decide +kernel
theorem dX8_init_31 : decode cX8_init 31 = .ok (.return_, 1) := by decide +kernel
theorem dX8_copyFrom_0 : decode cX8_copyFrom 0 = .ok (.aload_n 0, 1) := by decide +kernel
theorem dX8_copyFrom_1 : decode cX8_copyFrom 1 = .ok (.aload_n 1, 1) := by decide +kernel
theorem dX8_copyFrom_2 : decode cX8_copyFrom 2 = .ok (.getfield 9, 3) := by decide +kernel
theorem dX8_copyFrom_5 : decode cX8_copyFrom 5 = .ok (.putfield 9, 3) := by decide +kernel
theorem dX8_copyFrom_8 : decode cX8_copyFrom 8 = .ok (.aload_n 0, 1) := by decide +kernel
theorem dX8_copyFrom_9 : decode cX8_copyFrom 9 = .ok (.aload_n 1, 1) := by decide +kernel
theorem dX8_copyFrom_10 : decode cX8_copyFrom 10 = .ok (.getfield 15, 3) := by decide +kernel
theorem dX8_copyFrom_13 : decode cX8_copyFrom 13 = .ok (.putfield 15, 3) := by decide +kernel
theorem dX8_copyFrom_16 : decode cX8_copyFrom 16 = .ok (.aload_n 0, 1) := by decide +kernel
theorem dX8_copyFrom_17 : decode cX8_copyFrom 17 = .ok (.aload_n 1, 1) := by decide +kernel
theorem dX8_copyFrom_18 : decode cX8_copyFrom 18 = .ok (.getfield 18, 3) := by decide +kernel
theorem dX8_copyFrom_21 : decode cX8_copyFrom 21 = .ok (.putfield 18, 3) := by decide +kernel
theorem dX8_copyFrom_24 : decode cX8_copyFrom 24 = .ok (.aload_n 0, 1) := by decide +kernel
theorem dX8_copyFrom_25 : decode cX8_copyFrom 25 = .ok (.aload_n 1, 1) := by decide +kernel
theorem dX8_copyFrom_26 : decode cX8_copyFrom 26 = .ok (.getfield 22, 3) := by decide +kernel
theorem dX8_copyFrom_29 : decode cX8_copyFrom 29 = .ok (.putfield 22, 3) := by decide +kernel
theorem dX8_copyFrom_32 : decode cX8_copyFrom 32 = .ok (.aload_n 0, 1) := by decide +kernel
theorem dX8_copyFrom_33 : decode cX8_copyFrom 33 = .ok (.aload_n 1, 1) := by decide +kernel
theorem dX8_copyFrom_34 : decode cX8_copyFrom 34 = .ok (.getfield 27, 3) := by decide +kernel
theorem dX8_copyFrom_37 : decode cX8_copyFrom 37 = .ok (.putfield 27, 3) := by decide +kernel
theorem dX8_copyFrom_40 : decode cX8_copyFrom 40 = .ok (.return_, 1) := by decide +kernel
theorem dX8_begin_0 : decode cX8_begin 0 = .ok (.aload_n 0, 1) := by decide +kernel
theorem dX8_begin_1 : decode cX8_begin 1 = .ok (.iload_n 1, 1) := by decide +kernel
theorem dX8_begin_2 : decode cX8_begin 2 = .ok (.putfield 9, 3) := by decide +kernel
theorem dX8_begin_5 : decode cX8_begin 5 = .ok (.aload_n 0, 1) := by decide +kernel
theorem dX8_begin_6 : decode cX8_begin 6 = .ok (.iload_n 2, 1) := by decide +kernel
theorem dX8_begin_7 : decode cX8_begin 7 = .ok (.putfield 15, 3) := by decide +kernel
theorem dX8_begin_10 : decode cX8_begin 10 = .ok (.aload_n 0, 1) := by decide +kernel
theorem dX8_begin_11 : decode cX8_begin 11 = .ok (.lconst 0, 1) := by decide +kernel
theorem dX8_begin_12 : decode cX8_begin 12 = .ok (.putfield 18, 3) := by decide +kernel
theorem dX8_begin_15 : decode cX8_begin 15 = .ok (.aload_n 0, 1) := by decide +kernel
theorem dX8_begin_16 : decode cX8_begin 16 = .ok (.lconst 0, 1) := by decide +kernel
theorem dX8_begin_17 : decode cX8_begin 17 = .ok (.putfield 22, 3) := by decide +kernel
theorem dX8_begin_20 : decode cX8_begin 20 = .ok (.aload_n 0, 1) := by decide +kernel
theorem dX8_begin_21 : decode cX8_begin 21 = .ok (.ldc2_w 25, 3) := by decide +kernel
theorem dX8_begin_24 : decode cX8_begin 24 = .ok (.putfield 27, 3) := by decide +kernel
theorem dX8_begin_27 : decode cX8_begin 27 = .ok (.return_, 1) := by decide +kernel
theorem dX8_grossPrice_0 : decode cX8_grossPrice 0 = .ok (.aload_n 0, 1) := by decide +kernel
theorem dX8_grossPrice_1 : decode cX8_grossPrice 1 = .ok (.getfield 22, 3) := by decide +kernel
theorem dX8_grossPrice_4 : decode cX8_grossPrice 4 = .ok (.lconst 0, 1) := by decide +kernel
theorem dX8_grossPrice_5 : decode cX8_grossPrice 5 = .ok (.lcmp, 1) := by decide +kernel
theorem dX8_grossPrice_6 : decode cX8_grossPrice 6 = .ok (.ifCond .le 19, 3) := by decide +kernel
theorem dX8_grossPrice_9 : decode cX8_grossPrice 9 = .ok (.aload_n 0, 1) := by decide +kernel
theorem dX8_grossPrice_10 : decode cX8_grossPrice 10 = .ok (.getfield 18, 3) := by decide +kernel
theorem dX8_grossPrice_13 : decode cX8_grossPrice 13 = .ok (.ldc2_w 30, 3) := by decide +kernel
theorem dX8_grossPrice_16 : decode cX8_grossPrice 16 = .ok (.lmul, 1) := by decide +kernel
theorem dX8_grossPrice_17 : decode cX8_grossPrice 17 = .ok (.aload_n 0, 1) := by decide +kernel
theorem dX8_grossPrice_18 : decode cX8_grossPrice 18 = .ok (.getfield 22, 3) := by decide +kernel
theorem dX8_grossPrice_21 : decode cX8_grossPrice 21 = .ok (.ldiv, 1) := by decide +kernel
theorem dX8_grossPrice_22 : decode cX8_grossPrice 22 = .ok (.goto 6, 3) := by decide +kernel
theorem dX8_grossPrice_25 : decode cX8_grossPrice 25 = .ok (.ldc2_w 25, 3) := by decide +kernel
theorem dX8_grossPrice_28 : decode cX8_grossPrice 28 = .ok (.lreturn, 1) := by decide +kernel
theorem dX8_netPrice_0 : decode cX8_netPrice 0 = .ok (.aload_n 0, 1) := by decide +kernel
theorem dX8_netPrice_1 : decode cX8_netPrice 1 = .ok (.aload_n 0, 1) := by decide +kernel
theorem dX8_netPrice_2 : decode cX8_netPrice 2 = .ok (.getfield 18, 3) := by decide +kernel
theorem dX8_netPrice_5 : decode cX8_netPrice 5 = .ok (.aload_n 0, 1) := by decide +kernel
theorem dX8_netPrice_6 : decode cX8_netPrice 6 = .ok (.iload_n 1, 1) := by decide +kernel
theorem dX8_netPrice_7 : decode cX8_netPrice 7 = .ok (.invokevirtual 32, 3) := by decide +kernel
theorem dX8_netPrice_10 : decode cX8_netPrice 10 = .ok (.lsub, 1) := by decide +kernel
theorem dX8_netPrice_11 : decode cX8_netPrice 11 = .ok (.invokevirtual 36, 3) := by decide +kernel
theorem dX8_netPrice_14 : decode cX8_netPrice 14 = .ok (.lreturn, 1) := by decide +kernel
theorem dX8_priceWith_0 : decode cX8_priceWith 0 = .ok (.aload_n 0, 1) := by decide +kernel
theorem dX8_priceWith_1 : decode cX8_priceWith 1 = .ok (.getfield 22, 3) := by decide +kernel
theorem dX8_priceWith_4 : decode cX8_priceWith 4 = .ok (.lconst 0, 1) := by decide +kernel
theorem dX8_priceWith_5 : decode cX8_priceWith 5 = .ok (.lcmp, 1) := by decide +kernel
theorem dX8_priceWith_6 : decode cX8_priceWith 6 = .ok (.ifCond .le 16, 3) := by decide +kernel
theorem dX8_priceWith_9 : decode cX8_priceWith 9 = .ok (.lload_n 1, 1) := by decide +kernel
theorem dX8_priceWith_10 : decode cX8_priceWith 10 = .ok (.ldc2_w 30, 3) := by decide +kernel
theorem dX8_priceWith_13 : decode cX8_priceWith 13 = .ok (.lmul, 1) := by decide +kernel
theorem dX8_priceWith_14 : decode cX8_priceWith 14 = .ok (.aload_n 0, 1) := by decide +kernel
theorem dX8_priceWith_15 : decode cX8_priceWith 15 = .ok (.getfield 22, 3) := by decide +kernel
theorem dX8_priceWith_18 : decode cX8_priceWith 18 = .ok (.ldiv, 1) := by decide +kernel
theorem dX8_priceWith_19 : decode cX8_priceWith 19 = .ok (.goto 6, 3) := by decide +kernel
theorem dX8_priceWith_22 : decode cX8_priceWith 22 = .ok (.ldc2_w 25, 3) := by decide +kernel
theorem dX8_priceWith_25 : decode cX8_priceWith 25 = .ok (.lreturn, 1) := by decide +kernel
theorem dX8_accruedFee_0 : decode cX8_accruedFee 0 = .ok (.aload_n 0, 1) := by decide +kernel
theorem dX8_accruedFee_1 : decode cX8_accruedFee 1 = .ok (.getfield 27, 3) := by decide +kernel
theorem dX8_accruedFee_4 : decode cX8_accruedFee 4 = .ok (.ldc2_w 30, 3) := by decide +kernel
theorem dX8_accruedFee_7 : decode cX8_accruedFee 7 = .ok (.ldiv, 1) := by decide +kernel
theorem dX8_accruedFee_8 : decode cX8_accruedFee 8 = .ok (.aload_n 0, 1) := by decide +kernel
theorem dX8_accruedFee_9 : decode cX8_accruedFee 9 = .ok (.getfield 22, 3) := by decide +kernel
theorem dX8_accruedFee_12 : decode cX8_accruedFee 12 = .ok (.lmul, 1) := by decide +kernel
theorem dX8_accruedFee_13 : decode cX8_accruedFee 13 = .ok (.aload_n 0, 1) := by decide +kernel
theorem dX8_accruedFee_14 : decode cX8_accruedFee 14 = .ok (.getfield 27, 3) := by decide +kernel
theorem dX8_accruedFee_17 : decode cX8_accruedFee 17 = .ok (.ldc2_w 30, 3) := by decide +kernel
theorem dX8_accruedFee_20 : decode cX8_accruedFee 20 = .ok (.lrem, 1) := by decide +kernel
theorem dX8_accruedFee_21 : decode cX8_accruedFee 21 = .ok (.aload_n 0, 1) := by decide +kernel
theorem dX8_accruedFee_22 : decode cX8_accruedFee 22 = .ok (.getfield 22, 3) := by decide +kernel
theorem dX8_accruedFee_25 : decode cX8_accruedFee 25 = .ok (.lmul, 1) := by decide +kernel
theorem dX8_accruedFee_26 : decode cX8_accruedFee 26 = .ok (.ldc2_w 30, 3) := by decide +kernel
theorem dX8_accruedFee_29 : decode cX8_accruedFee 29 = .ok (.ldiv, 1) := by decide +kernel
theorem dX8_accruedFee_30 : decode cX8_accruedFee 30 = .ok (.ladd, 1) := by decide +kernel
theorem dX8_accruedFee_31 : decode cX8_accruedFee 31 = .ok (.lstore_n 2, 1) := by decide +kernel
theorem dX8_accruedFee_32 : decode cX8_accruedFee 32 = .ok (.aload_n 0, 1) := by decide +kernel
theorem dX8_accruedFee_33 : decode cX8_accruedFee 33 = .ok (.getfield 18, 3) := by decide +kernel
theorem dX8_accruedFee_36 : decode cX8_accruedFee 36 = .ok (.lload_n 2, 1) := by decide +kernel
theorem dX8_accruedFee_37 : decode cX8_accruedFee 37 = .ok (.lsub, 1) := by decide +kernel
theorem dX8_accruedFee_38 : decode cX8_accruedFee 38 = .ok (.lstore 4, 2) := by decide +kernel
theorem dX8_accruedFee_40 : decode cX8_accruedFee 40 = .ok (.lload 4, 2) := by decide +kernel
theorem dX8_accruedFee_42 : decode cX8_accruedFee 42 = .ok (.lconst 0, 1) := by decide +kernel
theorem dX8_accruedFee_43 : decode cX8_accruedFee 43 = .ok (.lcmp, 1) := by decide +kernel
theorem dX8_accruedFee_44 : decode cX8_accruedFee 44 = .ok (.ifCond .le 15, 3) := by decide +kernel
theorem dX8_accruedFee_47 : decode cX8_accruedFee 47 = .ok (.lload 4, 2) := by decide +kernel
theorem dX8_accruedFee_49 : decode cX8_accruedFee 49 = .ok (.iload_n 1, 1) := by decide +kernel
theorem dX8_accruedFee_50 : decode cX8_accruedFee 50 = .ok (.i2l, 1) := by decide +kernel
theorem dX8_accruedFee_51 : decode cX8_accruedFee 51 = .ok (.lmul, 1) := by decide +kernel
theorem dX8_accruedFee_52 : decode cX8_accruedFee 52 = .ok (.ldc2_w 40, 3) := by decide +kernel
theorem dX8_accruedFee_55 : decode cX8_accruedFee 55 = .ok (.ldiv, 1) := by decide +kernel
theorem dX8_accruedFee_56 : decode cX8_accruedFee 56 = .ok (.goto 4, 3) := by decide +kernel
theorem dX8_accruedFee_59 : decode cX8_accruedFee 59 = .ok (.lconst 0, 1) := by decide +kernel
theorem dX8_accruedFee_60 : decode cX8_accruedFee 60 = .ok (.lreturn, 1) := by decide +kernel
theorem dX8_assetsAfter_0 : decode cX8_assetsAfter 0 = .ok (.aload_n 0, 1) := by decide +kernel
theorem dX8_assetsAfter_1 : decode cX8_assetsAfter 1 = .ok (.getfield 18, 3) := by decide +kernel
theorem dX8_assetsAfter_4 : decode cX8_assetsAfter 4 = .ok (.aload_n 0, 1) := by decide +kernel
theorem dX8_assetsAfter_5 : decode cX8_assetsAfter 5 = .ok (.getfield 18, 3) := by decide +kernel
theorem dX8_assetsAfter_8 : decode cX8_assetsAfter 8 = .ok (.iload_n 1, 1) := by decide +kernel
theorem dX8_assetsAfter_9 : decode cX8_assetsAfter 9 = .ok (.i2l, 1) := by decide +kernel
theorem dX8_assetsAfter_10 : decode cX8_assetsAfter 10 = .ok (.lmul, 1) := by decide +kernel
theorem dX8_assetsAfter_11 : decode cX8_assetsAfter 11 = .ok (.ldc2_w 42, 3) := by decide +kernel
theorem dX8_assetsAfter_14 : decode cX8_assetsAfter 14 = .ok (.ldiv, 1) := by decide +kernel
theorem dX8_assetsAfter_15 : decode cX8_assetsAfter 15 = .ok (.ladd, 1) := by decide +kernel
theorem dX8_assetsAfter_16 : decode cX8_assetsAfter 16 = .ok (.lreturn, 1) := by decide +kernel
theorem dX9_init_0 : decode cX9_init 0 = .ok (.aload_n 0, 1) := by decide +kernel
theorem dX9_init_1 : decode cX9_init 1 = .ok (.invokespecial 3, 3) := by decide +kernel
theorem dX9_init_4 : decode cX9_init 4 = .ok (.aload_n 0, 1) := by decide +kernel
theorem dX9_init_5 : decode cX9_init 5 = .ok (.sipush 400, 3) := by decide +kernel
theorem dX9_init_8 : decode cX9_init 8 = .ok (.newarray .char, 2) := by decide +kernel
theorem dX9_init_10 : decode cX9_init 10 = .ok (.putfield 9, 3) := by decide +kernel
theorem dX9_init_13 : decode cX9_init 13 = .ok (.aload_n 0, 1) := by decide +kernel
theorem dX9_init_14 : decode cX9_init 14 = .ok (.iconst 0, 1) := by decide +kernel
theorem dX9_init_15 : decode cX9_init 15 = .ok (.putfield 15, 3) := by decide +kernel
theorem dX9_init_18 : decode cX9_init 18 = .ok (.aload_n 0, 1) := by decide +kernel
theorem dX9_init_19 : decode cX9_init 19 = .ok (.iconst 0, 1) := by decide +kernel
theorem dX9_init_20 : decode cX9_init 20 = .ok (.putfield 19, 3) := by decide +kernel
theorem dX9_init_23 : decode cX9_init 23 = .ok (.aload_n 0, 1) := by decide +kernel
theorem dX9_init_24 : decode cX9_init 24 = .ok (.iconst 0, 1) := by decide +kernel
theorem dX9_init_25 : decode cX9_init 25 = .ok (.putfield 22, 3) := by decide +kernel
theorem dX9_init_28 : decode cX9_init 28 = .ok (.aload_n 0, 1) := by decide +kernel
theorem dX9_init_29 : decode cX9_init 29 = .ok (.iconst 0, 1) := by decide +kernel
theorem dX9_init_30 : decode cX9_init 30 = .ok (.putfield 25, 3) := by decide +kernel
theorem dX9_init_33 : decode cX9_init 33 = .ok (.aload_n 0, 1) := by decide +kernel
theorem dX9_init_34 : decode cX9_init 34 = .ok (.iconst 0, 1) := by decide +kernel
theorem dX9_init_35 : decode cX9_init 35 = .ok (.putfield 28, 3) := by decide +kernel
theorem dX9_init_38 : decode cX9_init 38 = .ok (.aload_n 0, 1) := by decide +kernel
theorem dX9_init_39 : decode cX9_init 39 = .ok (.iconst (-1), 1) := by decide +kernel
theorem dX9_init_40 : decode cX9_init 40 = .ok (.putfield 31, 3) := by decide +kernel
theorem dX9_init_43 : decode cX9_init 43 = .ok (.return_, 1) := by decide +kernel
theorem dX9_putFour_0 : decode cX9_putFour 0 = .ok (.bipush 24, 2) := by decide +kernel
theorem dX9_putFour_2 : decode cX9_putFour 2 = .ok (.istore_n 2, 1) := by decide +kernel
theorem dX9_putFour_3 : decode cX9_putFour 3 = .ok (.iload_n 2, 1) := by decide +kernel
theorem dX9_putFour_4 : decode cX9_putFour 4 = .ok (.ifCond .lt 46, 3) := by decide +kernel
theorem dX9_putFour_7 : decode cX9_putFour 7 = .ok (.aload_n 0, 1) := by decide +kernel
theorem dX9_putFour_8 : decode cX9_putFour 8 = .ok (.getfield 15, 3) := by decide +kernel
theorem dX9_putFour_11 : decode cX9_putFour 11 = .ok (.sipush 400, 3) := by decide +kernel
theorem dX9_putFour_14 : decode cX9_putFour 14 = .ok (.if_icmp .ge 36, 3) := by decide +kernel
theorem dX9_putFour_17 : decode cX9_putFour 17 = .ok (.aload_n 0, 1) := by decide +kernel
theorem dX9_putFour_18 : decode cX9_putFour 18 = .ok (.getfield 9, 3) := by decide +kernel
theorem dX9_putFour_21 : decode cX9_putFour 21 = .ok (.aload_n 0, 1) := by decide +kernel
theorem dX9_putFour_22 : decode cX9_putFour 22 = .ok (.getfield 15, 3) := by decide +kernel
theorem dX9_putFour_25 : decode cX9_putFour 25 = .ok (.iload_n 1, 1) := by decide +kernel
theorem dX9_putFour_26 : decode cX9_putFour 26 = .ok (.iload_n 2, 1) := by decide +kernel
theorem dX9_putFour_27 : decode cX9_putFour 27 = .ok (.iushr, 1) := by decide +kernel
theorem dX9_putFour_28 : decode cX9_putFour 28 = .ok (.sipush 255, 3) := by decide +kernel
theorem dX9_putFour_31 : decode cX9_putFour 31 = .ok (.iand, 1) := by decide +kernel
theorem dX9_putFour_32 : decode cX9_putFour 32 = .ok (.i2c, 1) := by decide +kernel
theorem dX9_putFour_33 : decode cX9_putFour 33 = .ok (.castore, 1) := by decide +kernel
theorem dX9_putFour_34 : decode cX9_putFour 34 = .ok (.aload_n 0, 1) := by decide +kernel
theorem dX9_putFour_35 : decode cX9_putFour 35 = .ok (.dup, 1) := by decide +kernel
theorem dX9_putFour_36 : decode cX9_putFour 36 = .ok (.getfield 15, 3) := by decide +kernel
theorem dX9_putFour_39 : decode cX9_putFour 39 = .ok (.iconst 1, 1) := by decide +kernel
theorem dX9_putFour_40 : decode cX9_putFour 40 = .ok (.iadd, 1) := by decide +kernel
theorem dX9_putFour_41 : decode cX9_putFour 41 = .ok (.putfield 15, 3) := by decide +kernel
theorem dX9_putFour_44 : decode cX9_putFour 44 = .ok (.iinc 2 (-8), 3) := by decide +kernel
theorem dX9_putFour_47 : decode cX9_putFour 47 = .ok (.goto (-44), 3) := by decide +kernel
theorem dX9_putFour_50 : decode cX9_putFour 50 = .ok (.return_, 1) := by decide +kernel
theorem dX9_takeBuffer_0 : decode cX9_takeBuffer 0 = .ok (.aload_n 0, 1) := by decide +kernel
theorem dX9_takeBuffer_1 : decode cX9_takeBuffer 1 = .ok (.aload_n 0, 1) := by decide +kernel
theorem dX9_takeBuffer_2 : decode cX9_takeBuffer 2 = .ok (.getfield 15, 3) := by decide +kernel
theorem dX9_takeBuffer_5 : decode cX9_takeBuffer 5 = .ok (.putfield 19, 3) := by decide +kernel
theorem dX9_takeBuffer_8 : decode cX9_takeBuffer 8 = .ok (.aload_n 0, 1) := by decide +kernel
theorem dX9_takeBuffer_9 : decode cX9_takeBuffer 9 = .ok (.iconst 0, 1) := by decide +kernel
theorem dX9_takeBuffer_10 : decode cX9_takeBuffer 10 = .ok (.putfield 15, 3) := by decide +kernel
theorem dX9_takeBuffer_13 : decode cX9_takeBuffer 13 = .ok (.aload_n 0, 1) := by decide +kernel
theorem dX9_takeBuffer_14 : decode cX9_takeBuffer 14 = .ok (.iconst 0, 1) := by decide +kernel
theorem dX9_takeBuffer_15 : decode cX9_takeBuffer 15 = .ok (.putfield 25, 3) := by decide +kernel
theorem dX9_takeBuffer_18 : decode cX9_takeBuffer 18 = .ok (.aload_n 0, 1) := by decide +kernel
theorem dX9_takeBuffer_19 : decode cX9_takeBuffer 19 = .ok (.iconst 0, 1) := by decide +kernel
theorem dX9_takeBuffer_20 : decode cX9_takeBuffer 20 = .ok (.putfield 22, 3) := by decide +kernel
theorem dX9_takeBuffer_23 : decode cX9_takeBuffer 23 = .ok (.aload_n 0, 1) := by decide +kernel
theorem dX9_takeBuffer_24 : decode cX9_takeBuffer 24 = .ok (.iconst 0, 1) := by decide +kernel
theorem dX9_takeBuffer_25 : decode cX9_takeBuffer 25 = .ok (.putfield 28, 3) := by decide +kernel
theorem dX9_takeBuffer_28 : decode cX9_takeBuffer 28 = .ok (.return_, 1) := by decide +kernel
theorem dX9_advance_0 : decode cX9_advance 0 = .ok (.aload_n 0, 1) := by decide +kernel
theorem dX9_advance_1 : decode cX9_advance 1 = .ok (.aload_n 0, 1) := by decide +kernel
theorem dX9_advance_2 : decode cX9_advance 2 = .ok (.getfield 22, 3) := by decide +kernel
theorem dX9_advance_5 : decode cX9_advance 5 = .ok (.putfield 25, 3) := by decide +kernel
theorem dX9_advance_8 : decode cX9_advance 8 = .ok (.aload_n 0, 1) := by decide +kernel
theorem dX9_advance_9 : decode cX9_advance 9 = .ok (.getfield 25, 3) := by decide +kernel
theorem dX9_advance_12 : decode cX9_advance 12 = .ok (.aload_n 0, 1) := by decide +kernel
theorem dX9_advance_13 : decode cX9_advance 13 = .ok (.getfield 19, 3) := by decide +kernel
theorem dX9_advance_16 : decode cX9_advance 16 = .ok (.if_icmp .ge 44, 3) := by decide +kernel
theorem dX9_advance_19 : decode cX9_advance 19 = .ok (.aload_n 0, 1) := by decide +kernel
theorem dX9_advance_20 : decode cX9_advance 20 = .ok (.getfield 9, 3) := by decide +kernel
theorem dX9_advance_23 : decode cX9_advance 23 = .ok (.aload_n 0, 1) := by decide +kernel
theorem dX9_advance_24 : decode cX9_advance 24 = .ok (.getfield 25, 3) := by decide +kernel
theorem dX9_advance_27 : decode cX9_advance 27 = .ok (.caload, 1) := by decide +kernel
theorem dX9_advance_28 : decode cX9_advance 28 = .ok (.bipush 32, 2) := by decide +kernel
theorem dX9_advance_30 : decode cX9_advance 30 = .ok (.if_icmp .eq 17, 3) := by decide +kernel
theorem dX9_advance_33 : decode cX9_advance 33 = .ok (.aload_n 0, 1) := by decide +kernel
theorem dX9_advance_34 : decode cX9_advance 34 = .ok (.getfield 9, 3) := by decide +kernel
theorem dX9_advance_37 : decode cX9_advance 37 = .ok (.aload_n 0, 1) := by decide +kernel
theorem dX9_advance_38 : decode cX9_advance 38 = .ok (.getfield 25, 3) := by decide +kernel
theorem dX9_advance_41 : decode cX9_advance 41 = .ok (.caload, 1) := by decide +kernel
theorem dX9_advance_42 : decode cX9_advance 42 = .ok (.bipush 10, 2) := by decide +kernel
theorem dX9_advance_44 : decode cX9_advance 44 = .ok (.if_icmp .ne 16, 3) := by decide +kernel
theorem dX9_advance_47 : decode cX9_advance 47 = .ok (.aload_n 0, 1) := by decide +kernel
theorem dX9_advance_48 : decode cX9_advance 48 = .ok (.dup, 1) := by decide +kernel
theorem dX9_advance_49 : decode cX9_advance 49 = .ok (.getfield 25, 3) := by decide +kernel
theorem dX9_advance_52 : decode cX9_advance 52 = .ok (.iconst 1, 1) := by decide +kernel
theorem dX9_advance_53 : decode cX9_advance 53 = .ok (.iadd, 1) := by decide +kernel
theorem dX9_advance_54 : decode cX9_advance 54 = .ok (.putfield 25, 3) := by decide +kernel
theorem dX9_advance_57 : decode cX9_advance 57 = .ok (.goto (-49), 3) := by decide +kernel
theorem dX9_advance_60 : decode cX9_advance 60 = .ok (.aload_n 0, 1) := by decide +kernel
theorem dX9_advance_61 : decode cX9_advance 61 = .ok (.aload_n 0, 1) := by decide +kernel
theorem dX9_advance_62 : decode cX9_advance 62 = .ok (.getfield 25, 3) := by decide +kernel
theorem dX9_advance_65 : decode cX9_advance 65 = .ok (.putfield 22, 3) := by decide +kernel
theorem dX9_advance_68 : decode cX9_advance 68 = .ok (.aload_n 0, 1) := by decide +kernel
theorem dX9_advance_69 : decode cX9_advance 69 = .ok (.getfield 25, 3) := by decide +kernel
theorem dX9_advance_72 : decode cX9_advance 72 = .ok (.aload_n 0, 1) := by decide +kernel
theorem dX9_advance_73 : decode cX9_advance 73 = .ok (.getfield 19, 3) := by decide +kernel
theorem dX9_advance_76 : decode cX9_advance 76 = .ok (.if_icmp .lt 11, 3) := by decide +kernel
theorem dX9_advance_79 : decode cX9_advance 79 = .ok (.aload_n 0, 1) := by decide +kernel
theorem dX9_advance_80 : decode cX9_advance 80 = .ok (.iconst 0, 1) := by decide +kernel
theorem dX9_advance_81 : decode cX9_advance 81 = .ok (.putfield 28, 3) := by decide +kernel
theorem dX9_advance_84 : decode cX9_advance 84 = .ok (.goto 185, 3) := by decide +kernel
theorem dX9_advance_87 : decode cX9_advance 87 = .ok (.aload_n 0, 1) := by decide +kernel
theorem dX9_advance_88 : decode cX9_advance 88 = .ok (.aload_n 0, 1) := by decide +kernel
theorem dX9_advance_89 : decode cX9_advance 89 = .ok (.getfield 25, 3) := by decide +kernel
theorem dX9_advance_92 : decode cX9_advance 92 = .ok (.invokevirtual 34, 3) := by decide +kernel
theorem dX9_advance_95 : decode cX9_advance 95 = .ok (.ifCond .eq 43, 3) := by decide +kernel
theorem dX9_advance_98 : decode cX9_advance 98 = .ok (.aload_n 0, 1) := by decide +kernel
theorem dX9_advance_99 : decode cX9_advance 99 = .ok (.iconst 1, 1) := by decide +kernel
theorem dX9_advance_100 : decode cX9_advance 100 = .ok (.putfield 28, 3) := by decide +kernel
theorem dX9_advance_103 : decode cX9_advance 103 = .ok (.aload_n 0, 1) := by decide +kernel
theorem dX9_advance_104 : decode cX9_advance 104 = .ok (.getfield 22, 3) := by decide +kernel
theorem dX9_advance_107 : decode cX9_advance 107 = .ok (.aload_n 0, 1) := by decide +kernel
theorem dX9_advance_108 : decode cX9_advance 108 = .ok (.getfield 19, 3) := by decide +kernel
theorem dX9_advance_111 : decode cX9_advance 111 = .ok (.if_icmp .ge 158, 3) := by decide +kernel
theorem dX9_advance_114 : decode cX9_advance 114 = .ok (.aload_n 0, 1) := by decide +kernel
theorem dX9_advance_115 : decode cX9_advance 115 = .ok (.aload_n 0, 1) := by decide +kernel
theorem dX9_advance_116 : decode cX9_advance 116 = .ok (.getfield 22, 3) := by decide +kernel
theorem dX9_advance_119 : decode cX9_advance 119 = .ok (.invokevirtual 34, 3) := by decide +kernel
theorem dX9_advance_122 : decode cX9_advance 122 = .ok (.ifCond .eq 147, 3) := by decide +kernel
theorem dX9_advance_125 : decode cX9_advance 125 = .ok (.aload_n 0, 1) := by decide +kernel
theorem dX9_advance_126 : decode cX9_advance 126 = .ok (.dup, 1) := by decide +kernel
theorem dX9_advance_127 : decode cX9_advance 127 = .ok (.getfield 22, 3) := by decide +kernel
theorem dX9_advance_130 : decode cX9_advance 130 = .ok (.iconst 1, 1) := by decide +kernel
theorem dX9_advance_131 : decode cX9_advance 131 = .ok (.iadd, 1) := by decide +kernel
theorem dX9_advance_132 : decode cX9_advance 132 = .ok (.putfield 22, 3) := by decide +kernel
theorem dX9_advance_135 : decode cX9_advance 135 = .ok (.goto (-32), 3) := by decide +kernel
theorem dX9_advance_138 : decode cX9_advance 138 = .ok (.aload_n 0, 1) := by decide +kernel
theorem dX9_advance_139 : decode cX9_advance 139 = .ok (.aload_n 0, 1) := by decide +kernel
theorem dX9_advance_140 : decode cX9_advance 140 = .ok (.getfield 25, 3) := by decide +kernel
theorem dX9_advance_143 : decode cX9_advance 143 = .ok (.invokevirtual 38, 3) := by decide +kernel
theorem dX9_advance_146 : decode cX9_advance 146 = .ok (.ifCond .eq 90, 3) := by decide +kernel
theorem dX9_advance_149 : decode cX9_advance 149 = .ok (.aload_n 0, 1) := by decide +kernel
theorem dX9_advance_150 : decode cX9_advance 150 = .ok (.iconst 2, 1) := by decide +kernel
theorem dX9_advance_151 : decode cX9_advance 151 = .ok (.putfield 28, 3) := by decide +kernel
theorem dX9_advance_154 : decode cX9_advance 154 = .ok (.aload_n 0, 1) := by decide +kernel
theorem dX9_advance_155 : decode cX9_advance 155 = .ok (.iconst 0, 1) := by decide +kernel
theorem dX9_advance_156 : decode cX9_advance 156 = .ok (.putfield 31, 3) := by decide +kernel
theorem dX9_advance_159 : decode cX9_advance 159 = .ok (.aload_n 0, 1) := by decide +kernel
theorem dX9_advance_160 : decode cX9_advance 160 = .ok (.getfield 22, 3) := by decide +kernel
theorem dX9_advance_163 : decode cX9_advance 163 = .ok (.aload_n 0, 1) := by decide +kernel
theorem dX9_advance_164 : decode cX9_advance 164 = .ok (.getfield 19, 3) := by decide +kernel
theorem dX9_advance_167 : decode cX9_advance 167 = .ok (.if_icmp .ge 102, 3) := by decide +kernel
theorem dX9_advance_170 : decode cX9_advance 170 = .ok (.aload_n 0, 1) := by decide +kernel
theorem dX9_advance_171 : decode cX9_advance 171 = .ok (.aload_n 0, 1) := by decide +kernel
theorem dX9_advance_172 : decode cX9_advance 172 = .ok (.getfield 22, 3) := by decide +kernel
theorem dX9_advance_175 : decode cX9_advance 175 = .ok (.invokevirtual 38, 3) := by decide +kernel
theorem dX9_advance_178 : decode cX9_advance 178 = .ok (.ifCond .eq 91, 3) := by decide +kernel
theorem dX9_advance_181 : decode cX9_advance 181 = .ok (.aload_n 0, 1) := by decide +kernel
theorem dX9_advance_182 : decode cX9_advance 182 = .ok (.aload_n 0, 1) := by decide +kernel
theorem dX9_advance_183 : decode cX9_advance 183 = .ok (.getfield 22, 3) := by decide +kernel
theorem dX9_advance_186 : decode cX9_advance 186 = .ok (.aload_n 0, 1) := by decide +kernel
theorem dX9_advance_187 : decode cX9_advance 187 = .ok (.getfield 25, 3) := by decide +kernel
theorem dX9_advance_190 : decode cX9_advance 190 = .ok (.isub, 1) := by decide +kernel
theorem dX9_advance_191 : decode cX9_advance 191 = .ok (.bipush 7, 2) := by decide +kernel
theorem dX9_advance_193 : decode cX9_advance 193 = .ok (.if_icmp .ge 26, 3) := by decide +kernel
theorem dX9_advance_196 : decode cX9_advance 196 = .ok (.aload_n 0, 1) := by decide +kernel
theorem dX9_advance_197 : decode cX9_advance 197 = .ok (.getfield 31, 3) := by decide +kernel
theorem dX9_advance_200 : decode cX9_advance 200 = .ok (.bipush 10, 2) := by decide +kernel
theorem dX9_advance_202 : decode cX9_advance 202 = .ok (.imul, 1) := by decide +kernel
theorem dX9_advance_203 : decode cX9_advance 203 = .ok (.aload_n 0, 1) := by decide +kernel
theorem dX9_advance_204 : decode cX9_advance 204 = .ok (.getfield 9, 3) := by decide +kernel
theorem dX9_advance_207 : decode cX9_advance 207 = .ok (.aload_n 0, 1) := by decide +kernel
theorem dX9_advance_208 : decode cX9_advance 208 = .ok (.getfield 22, 3) := by decide +kernel
theorem dX9_advance_211 : decode cX9_advance 211 = .ok (.caload, 1) := by decide +kernel
theorem dX9_advance_212 : decode cX9_advance 212 = .ok (.bipush 48, 2) := by decide +kernel
theorem dX9_advance_214 : decode cX9_advance 214 = .ok (.isub, 1) := by decide +kernel
theorem dX9_advance_215 : decode cX9_advance 215 = .ok (.iadd, 1) := by decide +kernel
theorem dX9_advance_216 : decode cX9_advance 216 = .ok (.goto 4, 3) := by decide +kernel
theorem dX9_advance_219 : decode cX9_advance 219 = .ok (.iconst (-1), 1) := by decide +kernel
theorem dX9_advance_220 : decode cX9_advance 220 = .ok (.putfield 31, 3) := by decide +kernel
theorem dX9_advance_223 : decode cX9_advance 223 = .ok (.aload_n 0, 1) := by decide +kernel
theorem dX9_advance_224 : decode cX9_advance 224 = .ok (.dup, 1) := by decide +kernel
theorem dX9_advance_225 : decode cX9_advance 225 = .ok (.getfield 22, 3) := by decide +kernel
theorem dX9_advance_228 : decode cX9_advance 228 = .ok (.iconst 1, 1) := by decide +kernel
theorem dX9_advance_229 : decode cX9_advance 229 = .ok (.iadd, 1) := by decide +kernel
theorem dX9_advance_230 : decode cX9_advance 230 = .ok (.putfield 22, 3) := by decide +kernel
theorem dX9_advance_233 : decode cX9_advance 233 = .ok (.goto (-74), 3) := by decide +kernel
theorem dX9_advance_236 : decode cX9_advance 236 = .ok (.aload_n 0, 1) := by decide +kernel
theorem dX9_advance_237 : decode cX9_advance 237 = .ok (.aload_n 0, 1) := by decide +kernel
theorem dX9_advance_238 : decode cX9_advance 238 = .ok (.getfield 9, 3) := by decide +kernel
theorem dX9_advance_241 : decode cX9_advance 241 = .ok (.aload_n 0, 1) := by decide +kernel
theorem dX9_advance_242 : decode cX9_advance 242 = .ok (.getfield 25, 3) := by decide +kernel
theorem dX9_advance_245 : decode cX9_advance 245 = .ok (.caload, 1) := by decide +kernel
theorem dX9_advance_246 : decode cX9_advance 246 = .ok (.bipush 59, 2) := by decide +kernel
theorem dX9_advance_248 : decode cX9_advance 248 = .ok (.if_icmp .ne 7, 3) := by decide +kernel
theorem dX9_advance_251 : decode cX9_advance 251 = .ok (.iconst 3, 1) := by decide +kernel
theorem dX9_advance_252 : decode cX9_advance 252 = .ok (.goto 4, 3) := by decide +kernel
theorem dX9_advance_255 : decode cX9_advance 255 = .ok (.iconst 4, 1) := by decide +kernel
theorem dX9_advance_256 : decode cX9_advance 256 = .ok (.putfield 28, 3) := by decide +kernel
theorem dX9_advance_259 : decode cX9_advance 259 = .ok (.aload_n 0, 1) := by decide +kernel
theorem dX9_advance_260 : decode cX9_advance 260 = .ok (.aload_n 0, 1) := by decide +kernel
theorem dX9_advance_261 : decode cX9_advance 261 = .ok (.getfield 25, 3) := by decide +kernel
theorem dX9_advance_264 : decode cX9_advance 264 = .ok (.iconst 1, 1) := by decide +kernel
theorem dX9_advance_265 : decode cX9_advance 265 = .ok (.iadd, 1) := by decide +kernel
theorem dX9_advance_266 : decode cX9_advance 266 = .ok (.putfield 22, 3) := by decide +kernel
theorem dX9_advance_269 : decode cX9_advance 269 = .ok (.return_, 1) := by decide +kernel
theorem dX9_isLetter_0 : decode cX9_isLetter 0 = .ok (.aload_n 0, 1) := by decide +kernel
theorem dX9_isLetter_1 : decode cX9_isLetter 1 = .ok (.getfield 9, 3) := by decide +kernel
theorem dX9_isLetter_4 : decode cX9_isLetter 4 = .ok (.iload_n 1, 1) := by decide +kernel
theorem dX9_isLetter_5 : decode cX9_isLetter 5 = .ok (.caload, 1) := by decide +kernel
theorem dX9_isLetter_6 : decode cX9_isLetter 6 = .ok (.bipush 97, 2) := by decide +kernel
theorem dX9_isLetter_8 : decode cX9_isLetter 8 = .ok (.if_icmp .lt 18, 3) := by decide +kernel
theorem dX9_isLetter_11 : decode cX9_isLetter 11 = .ok (.aload_n 0, 1) := by decide +kernel
theorem dX9_isLetter_12 : decode cX9_isLetter 12 = .ok (.getfield 9, 3) := by decide +kernel
theorem dX9_isLetter_15 : decode cX9_isLetter 15 = .ok (.iload_n 1, 1) := by decide +kernel
theorem dX9_isLetter_16 : decode cX9_isLetter 16 = .ok (.caload, 1) := by decide +kernel
theorem dX9_isLetter_17 : decode cX9_isLetter 17 = .ok (.bipush 122, 2) := by decide +kernel
theorem dX9_isLetter_19 : decode cX9_isLetter 19 = .ok (.if_icmp .gt 7, 3) := by decide +kernel
theorem dX9_isLetter_22 : decode cX9_isLetter 22 = .ok (.iconst 1, 1) := by decide +kernel
theorem dX9_isLetter_23 : decode cX9_isLetter 23 = .ok (.goto 4, 3) := by decide +kernel
theorem dX9_isLetter_26 : decode cX9_isLetter 26 = .ok (.iconst 0, 1) := by decide +kernel
theorem dX9_isLetter_27 : decode cX9_isLetter 27 = .ok (.ireturn, 1) := by decide +kernel
theorem dX9_isDigit_0 : decode cX9_isDigit 0 = .ok (.aload_n 0, 1) := by decide +kernel
theorem dX9_isDigit_1 : decode cX9_isDigit 1 = .ok (.getfield 9, 3) := by decide +kernel
theorem dX9_isDigit_4 : decode cX9_isDigit 4 = .ok (.iload_n 1, 1) := by decide +kernel
theorem dX9_isDigit_5 : decode cX9_isDigit 5 = .ok (.caload, 1) := by decide +kernel
theorem dX9_isDigit_6 : decode cX9_isDigit 6 = .ok (.bipush 48, 2) := by decide +kernel
theorem dX9_isDigit_8 : decode cX9_isDigit 8 = .ok (.if_icmp .lt 18, 3) := by decide +kernel
theorem dX9_isDigit_11 : decode cX9_isDigit 11 = .ok (.aload_n 0, 1) := by decide +kernel
theorem dX9_isDigit_12 : decode cX9_isDigit 12 = .ok (.getfield 9, 3) := by decide +kernel
theorem dX9_isDigit_15 : decode cX9_isDigit 15 = .ok (.iload_n 1, 1) := by decide +kernel
theorem dX9_isDigit_16 : decode cX9_isDigit 16 = .ok (.caload, 1) := by decide +kernel
theorem dX9_isDigit_17 : decode cX9_isDigit 17 = .ok (.bipush 57, 2) := by decide +kernel
theorem dX9_isDigit_19 : decode cX9_isDigit 19 = .ok (.if_icmp .gt 7, 3) := by decide +kernel
theorem dX9_isDigit_22 : decode cX9_isDigit 22 = .ok (.iconst 1, 1) := by decide +kernel
theorem dX9_isDigit_23 : decode cX9_isDigit 23 = .ok (.goto 4, 3) := by decide +kernel
theorem dX9_isDigit_26 : decode cX9_isDigit 26 = .ok (.iconst 0, 1) := by decide +kernel
theorem dX9_isDigit_27 : decode cX9_isDigit 27 = .ok (.ireturn, 1) := by decide +kernel
theorem dX9_isWord_0 : decode cX9_isWord 0 = .ok (.aload_n 0, 1) := by decide +kernel
theorem dX9_isWord_1 : decode cX9_isWord 1 = .ok (.getfield 28, 3) := by decide +kernel
theorem dX9_isWord_4 : decode cX9_isWord 4 = .ok (.iconst 1, 1) := by decide +kernel
theorem dX9_isWord_5 : decode cX9_isWord 5 = .ok (.if_icmp .ne 19, 3) := by decide +kernel
theorem dX9_isWord_8 : decode cX9_isWord 8 = .ok (.aload_n 0, 1) := by decide +kernel
theorem dX9_isWord_9 : decode cX9_isWord 9 = .ok (.getfield 22, 3) := by decide +kernel
theorem dX9_isWord_12 : decode cX9_isWord 12 = .ok (.aload_n 0, 1) := by decide +kernel
theorem dX9_isWord_13 : decode cX9_isWord 13 = .ok (.getfield 25, 3) := by decide +kernel
theorem dX9_isWord_16 : decode cX9_isWord 16 = .ok (.isub, 1) := by decide +kernel
theorem dX9_isWord_17 : decode cX9_isWord 17 = .ok (.aload_n 1, 1) := by decide +kernel
theorem dX9_isWord_18 : decode cX9_isWord 18 = .ok (.invokevirtual 41, 3) := by decide +kernel
theorem dX9_isWord_21 : decode cX9_isWord 21 = .ok (.if_icmp .eq 5, 3) := by decide +kernel
theorem dX9_isWord_24 : decode cX9_isWord 24 = .ok (.iconst 0, 1) := by decide +kernel
theorem dX9_isWord_25 : decode cX9_isWord 25 = .ok (.ireturn, 1) := by decide +kernel
theorem dX9_isWord_26 : decode cX9_isWord 26 = .ok (.iconst 0, 1) := by decide +kernel
theorem dX9_isWord_27 : decode cX9_isWord 27 = .ok (.istore_n 2, 1) := by decide +kernel
theorem dX9_isWord_28 : decode cX9_isWord 28 = .ok (.iload_n 2, 1) := by decide +kernel
theorem dX9_isWord_29 : decode cX9_isWord 29 = .ok (.aload_n 1, 1) := by decide +kernel
theorem dX9_isWord_30 : decode cX9_isWord 30 = .ok (.invokevirtual 41, 3) := by decide +kernel
theorem dX9_isWord_33 : decode cX9_isWord 33 = .ok (.if_icmp .ge 30, 3) := by decide +kernel
theorem dX9_isWord_36 : decode cX9_isWord 36 = .ok (.aload_n 0, 1) := by decide +kernel
theorem dX9_isWord_37 : decode cX9_isWord 37 = .ok (.getfield 9, 3) := by decide +kernel
theorem dX9_isWord_40 : decode cX9_isWord 40 = .ok (.aload_n 0, 1) := by decide +kernel
theorem dX9_isWord_41 : decode cX9_isWord 41 = .ok (.getfield 25, 3) := by decide +kernel
theorem dX9_isWord_44 : decode cX9_isWord 44 = .ok (.iload_n 2, 1) := by decide +kernel
theorem dX9_isWord_45 : decode cX9_isWord 45 = .ok (.iadd, 1) := by decide +kernel
theorem dX9_isWord_46 : decode cX9_isWord 46 = .ok (.caload, 1) := by decide +kernel
theorem dX9_isWord_47 : decode cX9_isWord 47 = .ok (.aload_n 1, 1) := by decide +kernel
theorem dX9_isWord_48 : decode cX9_isWord 48 = .ok (.iload_n 2, 1) := by decide +kernel
theorem dX9_isWord_49 : decode cX9_isWord 49 = .ok (.invokevirtual 46, 3) := by decide +kernel
theorem dX9_isWord_52 : decode cX9_isWord 52 = .ok (.if_icmp .eq 5, 3) := by decide +kernel
theorem dX9_isWord_55 : decode cX9_isWord 55 = .ok (.iconst 0, 1) := by decide +kernel
theorem dX9_isWord_56 : decode cX9_isWord 56 = .ok (.ireturn, 1) := by decide +kernel
theorem dX9_isWord_57 : decode cX9_isWord 57 = .ok (.iinc 2 1, 3) := by decide +kernel
theorem dX9_isWord_60 : decode cX9_isWord 60 = .ok (.goto (-32), 3) := by decide +kernel
theorem dX9_isWord_63 : decode cX9_isWord 63 = .ok (.iconst 1, 1) := by decide +kernel
theorem dX9_isWord_64 : decode cX9_isWord 64 = .ok (.ireturn, 1) := by decide +kernel
theorem dX10_init_0 : decode cX10_init 0 = .ok (.aload_n 0, 1) := by decide +kernel
theorem dX10_init_1 : decode cX10_init 1 = .ok (.invokespecial 1, 3) := by decide +kernel
theorem dX10_init_4 : decode cX10_init 4 = .ok (.aload_n 0, 1) := by decide +kernel
theorem dX10_init_5 : decode cX10_init 5 = .ok (.new 7, 3) := by decide +kernel
theorem dX10_init_8 : decode cX10_init 8 = .ok (.dup, 1) := by decide +kernel
theorem dX10_init_9 : decode cX10_init 9 = .ok (.invokespecial 9, 3) := by decide +kernel
theorem dX10_init_12 : decode cX10_init 12 = .ok (.putfield 10, 3) := by decide +kernel
theorem dX10_init_15 : decode cX10_init 15 = .ok (.aload_n 0, 1) := by decide +kernel
theorem dX10_init_16 : decode cX10_init 16 = .ok (.iconst 0, 1) := by decide +kernel
theorem dX10_init_17 : decode cX10_init 17 = .ok (.putfield 16, 3) := by decide +kernel
theorem dX10_init_20 : decode cX10_init 20 = .ok (.aload_n 0, 1) := by decide +kernel
theorem dX10_init_21 : decode cX10_init 21 = .ok (.iconst (-1), 1) := by decide +kernel
theorem dX10_init_22 : decode cX10_init 22 = .ok (.putfield 20, 3) := by decide +kernel
theorem dX10_init_25 : decode cX10_init 25 = .ok (.aload_n 0, 1) := by decide +kernel
theorem dX10_init_26 : decode cX10_init 26 = .ok (.new 23, 3) := by decide +kernel
theorem dX10_init_29 : decode cX10_init 29 = .ok (.dup, 1) := by decide +kernel
theorem dX10_init_30 : decode cX10_init 30 = .ok (.invokespecial 25, 3) := by decide +kernel
theorem dX10_init_33 : decode cX10_init 33 = .ok (.putfield 26, 3) := by decide +kernel
theorem dX10_init_36 : decode cX10_init 36 = .ok (.aload_n 0, 1) := by decide +kernel
theorem dX10_init_37 : decode cX10_init 37 = .ok (.new 23, 3) := by decide +kernel
theorem dX10_init_40 : decode cX10_init 40 = .ok (.dup, 1) := by decide +kernel
theorem dX10_init_41 : decode cX10_init 41 = .ok (.invokespecial 25, 3) := by decide +kernel
theorem dX10_init_44 : decode cX10_init 44 = .ok (.putfield 30, 3) := by decide +kernel
theorem dX10_init_47 : decode cX10_init 47 = .ok (.aload_n 0, 1) := by decide +kernel
theorem dX10_init_48 : decode cX10_init 48 = .ok (.new 33, 3) := by decide +kernel
theorem dX10_init_51 : decode cX10_init 51 = .ok (.dup, 1) := by decide +kernel
theorem dX10_init_52 : decode cX10_init 52 = .ok (.invokespecial 35, 3) := by decide +kernel
theorem dX10_init_55 : decode cX10_init 55 = .ok (.putfield 36, 3) := by decide +kernel
theorem dX10_init_58 : decode cX10_init 58 = .ok (.aload_n 0, 1) := by decide +kernel
theorem dX10_init_59 : decode cX10_init 59 = .ok (.bipush 10, 2) := by decide +kernel
theorem dX10_init_61 : decode cX10_init 61 = .ok (.anewarray 23, 3) := by decide +kernel
theorem dX10_init_64 : decode cX10_init 64 = .ok (.putfield 40, 3) := by decide +kernel
theorem dX10_init_67 : decode cX10_init 67 = .ok (.aload_n 0, 1) := by decide +kernel
theorem dX10_init_68 : decode cX10_init 68 = .ok (.iconst 0, 1) := by decide +kernel
theorem dX10_init_69 : decode cX10_init 69 = .ok (.putfield 44, 3) := by decide +kernel
theorem dX10_init_72 : decode cX10_init 72 = .ok (.aload_n 0, 1) := by decide +kernel
theorem dX10_init_73 : decode cX10_init 73 = .ok (.iconst 0, 1) := by decide +kernel
theorem dX10_init_74 : decode cX10_init 74 = .ok (.putfield 47, 3) := by decide +kernel
theorem dX10_init_77 : decode cX10_init 77 = .ok (.aload_n 0, 1) := by decide +kernel
theorem dX10_init_78 : decode cX10_init 78 = .ok (.new 50, 3) := by decide +kernel
theorem dX10_init_81 : decode cX10_init 81 = .ok (.dup, 1) := by decide +kernel
theorem dX10_init_82 : decode cX10_init 82 = .ok (.invokespecial 52, 3) := by decide +kernel
theorem dX10_init_85 : decode cX10_init 85 = .ok (.putfield 53, 3) := by decide +kernel
theorem dX10_init_88 : decode cX10_init 88 = .ok (.return_, 1) := by decide +kernel
theorem dX10_appendText_0 : decode cX10_appendText 0 = .ok (.aload_n 0, 1) := by decide +kernel
theorem dX10_appendText_1 : decode cX10_appendText 1 = .ok (.getfield 10, 3) := by decide +kernel
theorem dX10_appendText_4 : decode cX10_appendText 4 = .ok (.getfield 57, 3) := by decide +kernel
theorem dX10_appendText_7 : decode cX10_appendText 7 = .ok (.bipush 20, 2) := by decide +kernel
theorem dX10_appendText_9 : decode cX10_appendText 9 = .ok (.iadd, 1) := by decide +kernel
theorem dX10_appendText_10 : decode cX10_appendText 10 = .ok (.sipush 400, 3) := by decide +kernel
theorem dX10_appendText_13 : decode cX10_appendText 13 = .ok (.if_icmp .le 13, 3) := by decide +kernel
theorem dX10_appendText_16 : decode cX10_appendText 16 = .ok (.new 60, 3) := by decide +kernel
theorem dX10_appendText_19 : decode cX10_appendText 19 = .ok (.dup, 1) := by decide +kernel
theorem dX10_appendText_20 : decode cX10_appendText 20 = .ok (.ldc 62, 2) := by decide +kernel
theorem dX10_appendText_22 : decode cX10_appendText 22 = .ok (.invokespecial 64, 3) := by decide +kernel
theorem dX10_appendText_25 : decode cX10_appendText 25 = .ok (.athrow, 1) := by decide +kernel
theorem dX10_appendText_26 : decode cX10_appendText 26 = .ok (.aload_n 0, 1) := by decide +kernel
theorem dX10_appendText_27 : decode cX10_appendText 27 = .ok (.getfield 10, 3) := by decide +kernel
theorem dX10_appendText_30 : decode cX10_appendText 30 = .ok (.iload_n 1, 1) := by decide +kernel
theorem dX10_appendText_31 : decode cX10_appendText 31 = .ok (.invokevirtual 67, 3) := by decide +kernel
theorem dX10_appendText_34 : decode cX10_appendText 34 = .ok (.aload_n 0, 1) := by decide +kernel
theorem dX10_appendText_35 : decode cX10_appendText 35 = .ok (.getfield 10, 3) := by decide +kernel
theorem dX10_appendText_38 : decode cX10_appendText 38 = .ok (.iload_n 2, 1) := by decide +kernel
theorem dX10_appendText_39 : decode cX10_appendText 39 = .ok (.invokevirtual 67, 3) := by decide +kernel
theorem dX10_appendText_42 : decode cX10_appendText 42 = .ok (.aload_n 0, 1) := by decide +kernel
theorem dX10_appendText_43 : decode cX10_appendText 43 = .ok (.getfield 10, 3) := by decide +kernel
theorem dX10_appendText_46 : decode cX10_appendText 46 = .ok (.iload_n 3, 1) := by decide +kernel
theorem dX10_appendText_47 : decode cX10_appendText 47 = .ok (.invokevirtual 67, 3) := by decide +kernel
theorem dX10_appendText_50 : decode cX10_appendText 50 = .ok (.aload_n 0, 1) := by decide +kernel
theorem dX10_appendText_51 : decode cX10_appendText 51 = .ok (.getfield 10, 3) := by decide +kernel
theorem dX10_appendText_54 : decode cX10_appendText 54 = .ok (.iload 4, 2) := by decide +kernel
theorem dX10_appendText_56 : decode cX10_appendText 56 = .ok (.invokevirtual 67, 3) := by decide +kernel
theorem dX10_appendText_59 : decode cX10_appendText 59 = .ok (.aload_n 0, 1) := by decide +kernel
theorem dX10_appendText_60 : decode cX10_appendText 60 = .ok (.getfield 10, 3) := by decide +kernel
theorem dX10_appendText_63 : decode cX10_appendText 63 = .ok (.iload 5, 2) := by decide +kernel
theorem dX10_appendText_65 : decode cX10_appendText 65 = .ok (.invokevirtual 67, 3) := by decide +kernel
theorem dX10_appendText_68 : decode cX10_appendText 68 = .ok (.aload_n 0, 1) := by decide +kernel
theorem dX10_appendText_69 : decode cX10_appendText 69 = .ok (.getfield 10, 3) := by decide +kernel
theorem dX10_appendText_72 : decode cX10_appendText 72 = .ok (.getfield 57, 3) := by decide +kernel
theorem dX10_appendText_75 : decode cX10_appendText 75 = .ok (.ireturn, 1) := by decide +kernel
theorem dX10_truncateText_0 : decode cX10_truncateText 0 = .ok (.iload_n 1, 1) := by decide +kernel
theorem dX10_truncateText_1 : decode cX10_truncateText 1 = .ok (.ifCond .lt 14, 3) := by decide +kernel
theorem dX10_truncateText_4 : decode cX10_truncateText 4 = .ok (.iload_n 1, 1) := by decide +kernel
theorem dX10_truncateText_5 : decode cX10_truncateText 5 = .ok (.aload_n 0, 1) := by decide +kernel
theorem dX10_truncateText_6 : decode cX10_truncateText 6 = .ok (.getfield 10, 3) := by decide +kernel
theorem dX10_truncateText_9 : decode cX10_truncateText 9 = .ok (.getfield 57, 3) := by decide +kernel
theorem dX10_truncateText_12 : decode cX10_truncateText 12 = .ok (.if_icmp .le 13, 3) := by decide +kernel
theorem dX10_truncateText_15 : decode cX10_truncateText 15 = .ok (.new 71, 3) := by decide +kernel
theorem dX10_truncateText_18 : decode cX10_truncateText 18 = .ok (.dup, 1) := by decide +kernel
theorem dX10_truncateText_19 : decode cX10_truncateText 19 = .ok (.ldc 73, 2) := by decide +kernel
theorem dX10_truncateText_21 : decode cX10_truncateText 21 = .ok (.invokespecial 75, 3) := by decide +kernel
theorem dX10_truncateText_24 : decode cX10_truncateText 24 = .ok (.athrow, 1) := by decide +kernel
theorem dX10_truncateText_25 : decode cX10_truncateText 25 = .ok (.aload_n 0, 1) := by decide +kernel
theorem dX10_truncateText_26 : decode cX10_truncateText 26 = .ok (.getfield 10, 3) := by decide +kernel
theorem dX10_truncateText_29 : decode cX10_truncateText 29 = .ok (.iload_n 1, 1) := by decide +kernel
theorem dX10_truncateText_30 : decode cX10_truncateText 30 = .ok (.putfield 57, 3) := by decide +kernel
theorem dX10_truncateText_33 : decode cX10_truncateText 33 = .ok (.iload_n 1, 1) := by decide +kernel
theorem dX10_truncateText_34 : decode cX10_truncateText 34 = .ok (.ireturn, 1) := by decide +kernel
theorem dX10_parseFund_0 : decode cX10_parseFund 0 = .ok (.aload_n 0, 1) := by decide +kernel
theorem dX10_parseFund_1 : decode cX10_parseFund 1 = .ok (.getfield 10, 3) := by decide +kernel
theorem dX10_parseFund_4 : decode cX10_parseFund 4 = .ok (.invokevirtual 76, 3) := by decide +kernel
theorem dX10_parseFund_7 : decode cX10_parseFund 7 = .ok (.new 79, 3) := by decide +kernel
theorem dX10_parseFund_10 : decode cX10_parseFund 10 = .ok (.dup, 1) := by decide +kernel
theorem dX10_parseFund_11 : decode cX10_parseFund 11 = .ok (.aload_n 0, 1) := by decide +kernel
theorem dX10_parseFund_12 : decode cX10_parseFund 12 = .ok (.getfield 10, 3) := by decide +kernel
theorem dX10_parseFund_15 : decode cX10_parseFund 15 = .ok (.aload_n 0, 1) := by decide +kernel
theorem dX10_parseFund_16 : decode cX10_parseFund 16 = .ok (.getfield 30, 3) := by decide +kernel
theorem dX10_parseFund_19 : decode cX10_parseFund 19 = .ok (.invokespecial 81, 3) := by decide +kernel
theorem dX10_parseFund_22 : decode cX10_parseFund 22 = .ok (.astore_n 1, 1) := by decide +kernel
theorem dX10_parseFund_23 : decode cX10_parseFund 23 = .ok (.aload_n 1, 1) := by decide +kernel
theorem dX10_parseFund_24 : decode cX10_parseFund 24 = .ok (.invokevirtual 84, 3) := by decide +kernel
theorem dX10_parseFund_27 : decode cX10_parseFund 27 = .ok (.ifCond .ne 24, 3) := by decide +kernel
theorem dX10_parseFund_30 : decode cX10_parseFund 30 = .ok (.aload_n 0, 1) := by decide +kernel
theorem dX10_parseFund_31 : decode cX10_parseFund 31 = .ok (.aload_n 1, 1) := by decide +kernel
theorem dX10_parseFund_32 : decode cX10_parseFund 32 = .ok (.getfield 88, 3) := by decide +kernel
theorem dX10_parseFund_35 : decode cX10_parseFund 35 = .ok (.putfield 16, 3) := by decide +kernel
theorem dX10_parseFund_38 : decode cX10_parseFund 38 = .ok (.aload_n 0, 1) := by decide +kernel
theorem dX10_parseFund_39 : decode cX10_parseFund 39 = .ok (.aload_n 0, 1) := by decide +kernel
theorem dX10_parseFund_40 : decode cX10_parseFund 40 = .ok (.getfield 10, 3) := by decide +kernel
theorem dX10_parseFund_43 : decode cX10_parseFund 43 = .ok (.getfield 91, 3) := by decide +kernel
theorem dX10_parseFund_46 : decode cX10_parseFund 46 = .ok (.putfield 20, 3) := by decide +kernel
theorem dX10_parseFund_49 : decode cX10_parseFund 49 = .ok (.iconst (-1), 1) := by decide +kernel
theorem dX10_parseFund_50 : decode cX10_parseFund 50 = .ok (.ireturn, 1) := by decide +kernel
theorem dX10_parseFund_51 : decode cX10_parseFund 51 = .ok (.aload_n 0, 1) := by decide +kernel
theorem dX10_parseFund_52 : decode cX10_parseFund 52 = .ok (.iconst 0, 1) := by decide +kernel
theorem dX10_parseFund_53 : decode cX10_parseFund 53 = .ok (.putfield 16, 3) := by decide +kernel
theorem dX10_parseFund_56 : decode cX10_parseFund 56 = .ok (.aload_n 0, 1) := by decide +kernel
theorem dX10_parseFund_57 : decode cX10_parseFund 57 = .ok (.iconst (-1), 1) := by decide +kernel
theorem dX10_parseFund_58 : decode cX10_parseFund 58 = .ok (.putfield 20, 3) := by decide +kernel
theorem dX10_parseFund_61 : decode cX10_parseFund 61 = .ok (.aload_n 0, 1) := by decide +kernel
theorem dX10_parseFund_62 : decode cX10_parseFund 62 = .ok (.getfield 30, 3) := by decide +kernel
theorem dX10_parseFund_65 : decode cX10_parseFund 65 = .ok (.getfield 94, 3) := by decide +kernel
theorem dX10_parseFund_68 : decode cX10_parseFund 68 = .ok (.istore_n 2, 1) := by decide +kernel
theorem dX10_parseFund_69 : decode cX10_parseFund 69 = .ok (.aload_n 0, 1) := by decide +kernel
theorem dX10_parseFund_70 : decode cX10_parseFund 70 = .ok (.getfield 36, 3) := by decide +kernel
theorem dX10_parseFund_73 : decode cX10_parseFund 73 = .ok (.aload_n 0, 1) := by decide +kernel
theorem dX10_parseFund_74 : decode cX10_parseFund 74 = .ok (.getfield 30, 3) := by decide +kernel
theorem dX10_parseFund_77 : decode cX10_parseFund 77 = .ok (.invokevirtual 97, 3) := by decide +kernel
theorem dX10_parseFund_80 : decode cX10_parseFund 80 = .ok (.pop, 1) := by decide +kernel
theorem dX10_parseFund_81 : decode cX10_parseFund 81 = .ok (.aload_n 0, 1) := by decide +kernel
theorem dX10_parseFund_82 : decode cX10_parseFund 82 = .ok (.getfield 26, 3) := by decide +kernel
theorem dX10_parseFund_85 : decode cX10_parseFund 85 = .ok (.aload_n 0, 1) := by decide +kernel
theorem dX10_parseFund_86 : decode cX10_parseFund 86 = .ok (.getfield 30, 3) := by decide +kernel
theorem dX10_parseFund_89 : decode cX10_parseFund 89 = .ok (.invokevirtual 101, 3) := by decide +kernel
theorem dX10_parseFund_92 : decode cX10_parseFund 92 = .ok (.aload_n 0, 1) := by decide +kernel
theorem dX10_parseFund_93 : decode cX10_parseFund 93 = .ok (.iconst 0, 1) := by decide +kernel
theorem dX10_parseFund_94 : decode cX10_parseFund 94 = .ok (.putfield 47, 3) := by decide +kernel
theorem dX10_parseFund_97 : decode cX10_parseFund 97 = .ok (.iload_n 2, 1) := by decide +kernel
theorem dX10_parseFund_98 : decode cX10_parseFund 98 = .ok (.ireturn, 1) := by decide +kernel
theorem dX10_errorCode_0 : decode cX10_errorCode 0 = .ok (.aload_n 0, 1) := by decide +kernel
theorem dX10_errorCode_1 : decode cX10_errorCode 1 = .ok (.getfield 16, 3) := by decide +kernel
theorem dX10_errorCode_4 : decode cX10_errorCode 4 = .ok (.ireturn, 1) := by decide +kernel
theorem dX10_errorPosition_0 : decode cX10_errorPosition 0 = .ok (.aload_n 0, 1) := by decide +kernel
theorem dX10_errorPosition_1 : decode cX10_errorPosition 1 = .ok (.getfield 20, 3) := by decide +kernel
theorem dX10_errorPosition_4 : decode cX10_errorPosition 4 = .ok (.ireturn, 1) := by decide +kernel
theorem dX10_subscribe_0 : decode cX10_subscribe 0 = .ok (.aload_n 0, 1) := by decide +kernel
theorem dX10_subscribe_1 : decode cX10_subscribe 1 = .ok (.getfield 26, 3) := by decide +kernel
theorem dX10_subscribe_4 : decode cX10_subscribe 4 = .ok (.iload_n 1, 1) := by decide +kernel
theorem dX10_subscribe_5 : decode cX10_subscribe 5 = .ok (.iload_n 2, 1) := by decide +kernel
theorem dX10_subscribe_6 : decode cX10_subscribe 6 = .ok (.invokevirtual 105, 3) := by decide +kernel
theorem dX10_subscribe_9 : decode cX10_subscribe 9 = .ok (.invokestatic 109, 3) := by decide +kernel
theorem dX10_subscribe_12 : decode cX10_subscribe 12 = .ok (.aload_n 0, 1) := by decide +kernel
theorem dX10_subscribe_13 : decode cX10_subscribe 13 = .ok (.invokevirtual 112, 3) := by decide +kernel
theorem dX10_subscribe_16 : decode cX10_subscribe 16 = .ok (.aload_n 0, 1) := by decide +kernel
theorem dX10_subscribe_17 : decode cX10_subscribe 17 = .ok (.getfield 26, 3) := by decide +kernel
theorem dX10_subscribe_20 : decode cX10_subscribe 20 = .ok (.iload_n 1, 1) := by decide +kernel
theorem dX10_subscribe_21 : decode cX10_subscribe 21 = .ok (.iconst 0, 1) := by decide +kernel
theorem dX10_subscribe_22 : decode cX10_subscribe 22 = .ok (.iload_n 2, 1) := by decide +kernel
theorem dX10_subscribe_23 : decode cX10_subscribe 23 = .ok (.i2l, 1) := by decide +kernel
theorem dX10_subscribe_24 : decode cX10_subscribe 24 = .ok (.invokevirtual 115, 3) := by decide +kernel
theorem dX10_subscribe_27 : decode cX10_subscribe 27 = .ok (.ireturn, 1) := by decide +kernel
theorem dX10_redeem_0 : decode cX10_redeem 0 = .ok (.aload_n 0, 1) := by decide +kernel
theorem dX10_redeem_1 : decode cX10_redeem 1 = .ok (.getfield 26, 3) := by decide +kernel
theorem dX10_redeem_4 : decode cX10_redeem 4 = .ok (.iload_n 1, 1) := by decide +kernel
theorem dX10_redeem_5 : decode cX10_redeem 5 = .ok (.iload_n 2, 1) := by decide +kernel
theorem dX10_redeem_6 : decode cX10_redeem 6 = .ok (.invokevirtual 119, 3) := by decide +kernel
theorem dX10_redeem_9 : decode cX10_redeem 9 = .ok (.invokestatic 109, 3) := by decide +kernel
theorem dX10_redeem_12 : decode cX10_redeem 12 = .ok (.aload_n 0, 1) := by decide +kernel
theorem dX10_redeem_13 : decode cX10_redeem 13 = .ok (.invokevirtual 112, 3) := by decide +kernel
theorem dX10_redeem_16 : decode cX10_redeem 16 = .ok (.aload_n 0, 1) := by decide +kernel
theorem dX10_redeem_17 : decode cX10_redeem 17 = .ok (.getfield 26, 3) := by decide +kernel
theorem dX10_redeem_20 : decode cX10_redeem 20 = .ok (.iload_n 1, 1) := by decide +kernel
theorem dX10_redeem_21 : decode cX10_redeem 21 = .ok (.iconst 1, 1) := by decide +kernel
theorem dX10_redeem_22 : decode cX10_redeem 22 = .ok (.iload_n 2, 1) := by decide +kernel
theorem dX10_redeem_23 : decode cX10_redeem 23 = .ok (.i2l, 1) := by decide +kernel
theorem dX10_redeem_24 : decode cX10_redeem 24 = .ok (.invokevirtual 115, 3) := by decide +kernel
theorem dX10_redeem_27 : decode cX10_redeem 27 = .ok (.ireturn, 1) := by decide +kernel
theorem dX10_withdraw_0 : decode cX10_withdraw 0 = .ok (.aload_n 0, 1) := by decide +kernel
theorem dX10_withdraw_1 : decode cX10_withdraw 1 = .ok (.iload_n 1, 1) := by decide +kernel
theorem dX10_withdraw_2 : decode cX10_withdraw 2 = .ok (.invokevirtual 122, 3) := by decide +kernel
theorem dX10_withdraw_5 : decode cX10_withdraw 5 = .ok (.aload_n 0, 1) := by decide +kernel
theorem dX10_withdraw_6 : decode cX10_withdraw 6 = .ok (.invokevirtual 112, 3) := by decide +kernel
theorem dX10_withdraw_9 : decode cX10_withdraw 9 = .ok (.aload_n 0, 1) := by decide +kernel
theorem dX10_withdraw_10 : decode cX10_withdraw 10 = .ok (.getfield 26, 3) := by decide +kernel
theorem dX10_withdraw_13 : decode cX10_withdraw 13 = .ok (.getfield 125, 3) := by decide +kernel
theorem dX10_withdraw_16 : decode cX10_withdraw 16 = .ok (.iload_n 1, 1) := by decide +kernel
theorem dX10_withdraw_17 : decode cX10_withdraw 17 = .ok (.aaload, 1) := by decide +kernel
theorem dX10_withdraw_18 : decode cX10_withdraw 18 = .ok (.getfield 129, 3) := by decide +kernel
theorem dX10_withdraw_21 : decode cX10_withdraw 21 = .ok (.lstore_n 2, 1) := by decide +kernel
theorem dX10_withdraw_22 : decode cX10_withdraw 22 = .ok (.aload_n 0, 1) := by decide +kernel
theorem dX10_withdraw_23 : decode cX10_withdraw 23 = .ok (.getfield 26, 3) := by decide +kernel
theorem dX10_withdraw_26 : decode cX10_withdraw 26 = .ok (.iload_n 1, 1) := by decide +kernel
theorem dX10_withdraw_27 : decode cX10_withdraw 27 = .ok (.invokevirtual 135, 3) := by decide +kernel
theorem dX10_withdraw_30 : decode cX10_withdraw 30 = .ok (.lload_n 2, 1) := by decide +kernel
theorem dX10_withdraw_31 : decode cX10_withdraw 31 = .ok (.lreturn, 1) := by decide +kernel
theorem dX10_deal_0 : decode cX10_deal 0 = .ok (.aload_n 0, 1) := by decide +kernel
theorem dX10_deal_1 : decode cX10_deal 1 = .ok (.invokevirtual 112, 3) := by decide +kernel
theorem dX10_deal_4 : decode cX10_deal 4 = .ok (.aload_n 0, 1) := by decide +kernel
theorem dX10_deal_5 : decode cX10_deal 5 = .ok (.getfield 36, 3) := by decide +kernel
theorem dX10_deal_8 : decode cX10_deal 8 = .ok (.aload_n 0, 1) := by decide +kernel
theorem dX10_deal_9 : decode cX10_deal 9 = .ok (.getfield 26, 3) := by decide +kernel
theorem dX10_deal_12 : decode cX10_deal 12 = .ok (.invokevirtual 97, 3) := by decide +kernel
theorem dX10_deal_15 : decode cX10_deal 15 = .ok (.ireturn, 1) := by decide +kernel
theorem dX10_earn_0 : decode cX10_earn 0 = .ok (.aload_n 0, 1) := by decide +kernel
theorem dX10_earn_1 : decode cX10_earn 1 = .ok (.getfield 26, 3) := by decide +kernel
theorem dX10_earn_4 : decode cX10_earn 4 = .ok (.iload_n 1, 1) := by decide +kernel
theorem dX10_earn_5 : decode cX10_earn 5 = .ok (.invokestatic 138, 3) := by decide +kernel
theorem dX10_earn_8 : decode cX10_earn 8 = .ok (.invokestatic 109, 3) := by decide +kernel
theorem dX10_earn_11 : decode cX10_earn 11 = .ok (.aload_n 0, 1) := by decide +kernel
theorem dX10_earn_12 : decode cX10_earn 12 = .ok (.invokevirtual 112, 3) := by decide +kernel
theorem dX10_earn_15 : decode cX10_earn 15 = .ok (.aload_n 0, 1) := by decide +kernel
theorem dX10_earn_16 : decode cX10_earn 16 = .ok (.getfield 26, 3) := by decide +kernel
theorem dX10_earn_19 : decode cX10_earn 19 = .ok (.iload_n 1, 1) := by decide +kernel
theorem dX10_earn_20 : decode cX10_earn 20 = .ok (.invokestatic 144, 3) := by decide +kernel
theorem dX10_earn_23 : decode cX10_earn 23 = .ok (.lreturn, 1) := by decide +kernel
theorem dX10_passDays_0 : decode cX10_passDays 0 = .ok (.iload_n 1, 1) := by decide +kernel
theorem dX10_passDays_1 : decode cX10_passDays 1 = .ok (.invokestatic 148, 3) := by decide +kernel
theorem dX10_passDays_4 : decode cX10_passDays 4 = .ok (.invokestatic 109, 3) := by decide +kernel
theorem dX10_passDays_7 : decode cX10_passDays 7 = .ok (.aload_n 0, 1) := by decide +kernel
theorem dX10_passDays_8 : decode cX10_passDays 8 = .ok (.invokevirtual 112, 3) := by decide +kernel
theorem dX10_passDays_11 : decode cX10_passDays 11 = .ok (.aload_n 0, 1) := by decide +kernel
theorem dX10_passDays_12 : decode cX10_passDays 12 = .ok (.getfield 26, 3) := by decide +kernel
theorem dX10_passDays_15 : decode cX10_passDays 15 = .ok (.iload_n 1, 1) := by decide +kernel
theorem dX10_passDays_16 : decode cX10_passDays 16 = .ok (.invokestatic 152, 3) := by decide +kernel
theorem dX10_passDays_19 : decode cX10_passDays 19 = .ok (.lreturn, 1) := by decide +kernel
theorem dX10_crystallize_0 : decode cX10_crystallize 0 = .ok (.aload_n 0, 1) := by decide +kernel
theorem dX10_crystallize_1 : decode cX10_crystallize 1 = .ok (.invokevirtual 112, 3) := by decide +kernel
theorem dX10_crystallize_4 : decode cX10_crystallize 4 = .ok (.aload_n 0, 1) := by decide +kernel
theorem dX10_crystallize_5 : decode cX10_crystallize 5 = .ok (.getfield 26, 3) := by decide +kernel
theorem dX10_crystallize_8 : decode cX10_crystallize 8 = .ok (.invokestatic 155, 3) := by decide +kernel
theorem dX10_crystallize_11 : decode cX10_crystallize 11 = .ok (.lreturn, 1) := by decide +kernel
theorem dX10_merge_0 : decode cX10_merge 0 = .ok (.aload_n 0, 1) := by decide +kernel
theorem dX10_merge_1 : decode cX10_merge 1 = .ok (.invokevirtual 112, 3) := by decide +kernel
theorem dX10_merge_4 : decode cX10_merge 4 = .ok (.aload_n 0, 1) := by decide +kernel
theorem dX10_merge_5 : decode cX10_merge 5 = .ok (.getfield 26, 3) := by decide +kernel
theorem dX10_merge_8 : decode cX10_merge 8 = .ok (.invokestatic 159, 3) := by decide +kernel
theorem dX10_merge_11 : decode cX10_merge 11 = .ok (.ireturn, 1) := by decide +kernel
theorem dX10_transfer_0 : decode cX10_transfer 0 = .ok (.aload_n 0, 1) := by decide +kernel
theorem dX10_transfer_1 : decode cX10_transfer 1 = .ok (.getfield 26, 3) := by decide +kernel
theorem dX10_transfer_4 : decode cX10_transfer 4 = .ok (.iload_n 1, 1) := by decide +kernel
theorem dX10_transfer_5 : decode cX10_transfer 5 = .ok (.iload_n 2, 1) := by decide +kernel
theorem dX10_transfer_6 : decode cX10_transfer 6 = .ok (.iload_n 3, 1) := by decide +kernel
theorem dX10_transfer_7 : decode cX10_transfer 7 = .ok (.invokevirtual 162, 3) := by decide +kernel
theorem dX10_transfer_10 : decode cX10_transfer 10 = .ok (.invokestatic 109, 3) := by decide +kernel
theorem dX10_transfer_13 : decode cX10_transfer 13 = .ok (.aload_n 0, 1) := by decide +kernel
theorem dX10_transfer_14 : decode cX10_transfer 14 = .ok (.invokevirtual 112, 3) := by decide +kernel
theorem dX10_transfer_17 : decode cX10_transfer 17 = .ok (.aload_n 0, 1) := by decide +kernel
theorem dX10_transfer_18 : decode cX10_transfer 18 = .ok (.getfield 26, 3) := by decide +kernel
theorem dX10_transfer_21 : decode cX10_transfer 21 = .ok (.iload_n 1, 1) := by decide +kernel
theorem dX10_transfer_22 : decode cX10_transfer 22 = .ok (.iload_n 2, 1) := by decide +kernel
theorem dX10_transfer_23 : decode cX10_transfer 23 = .ok (.iload_n 3, 1) := by decide +kernel
theorem dX10_transfer_24 : decode cX10_transfer 24 = .ok (.i2l, 1) := by decide +kernel
theorem dX10_transfer_25 : decode cX10_transfer 25 = .ok (.invokevirtual 166, 3) := by decide +kernel
theorem dX10_transfer_28 : decode cX10_transfer 28 = .ok (.aload_n 0, 1) := by decide +kernel
theorem dX10_transfer_29 : decode cX10_transfer 29 = .ok (.getfield 26, 3) := by decide +kernel
theorem dX10_transfer_32 : decode cX10_transfer 32 = .ok (.iload_n 1, 1) := by decide +kernel
theorem dX10_transfer_33 : decode cX10_transfer 33 = .ok (.invokevirtual 170, 3) := by decide +kernel
theorem dX10_transfer_36 : decode cX10_transfer 36 = .ok (.lreturn, 1) := by decide +kernel
theorem dX10_setGate_0 : decode cX10_setGate 0 = .ok (.iload_n 1, 1) := by decide +kernel
theorem dX10_setGate_1 : decode cX10_setGate 1 = .ok (.iconst 1, 1) := by decide +kernel
theorem dX10_setGate_2 : decode cX10_setGate 2 = .ok (.if_icmp .lt 9, 3) := by decide +kernel
theorem dX10_setGate_5 : decode cX10_setGate 5 = .ok (.iload_n 1, 1) := by decide +kernel
theorem dX10_setGate_6 : decode cX10_setGate 6 = .ok (.bipush 100, 2) := by decide +kernel
theorem dX10_setGate_8 : decode cX10_setGate 8 = .ok (.if_icmp .le 13, 3) := by decide +kernel
theorem dX10_setGate_11 : decode cX10_setGate 11 = .ok (.new 71, 3) := by decide +kernel
theorem dX10_setGate_14 : decode cX10_setGate 14 = .ok (.dup, 1) := by decide +kernel
theorem dX10_setGate_15 : decode cX10_setGate 15 = .ok (.ldc 174, 2) := by decide +kernel
theorem dX10_setGate_17 : decode cX10_setGate 17 = .ok (.invokespecial 75, 3) := by decide +kernel
theorem dX10_setGate_20 : decode cX10_setGate 20 = .ok (.athrow, 1) := by decide +kernel
theorem dX10_setGate_21 : decode cX10_setGate 21 = .ok (.aload_n 0, 1) := by decide +kernel
theorem dX10_setGate_22 : decode cX10_setGate 22 = .ok (.invokevirtual 112, 3) := by decide +kernel
theorem dX10_setGate_25 : decode cX10_setGate 25 = .ok (.aload_n 0, 1) := by decide +kernel
theorem dX10_setGate_26 : decode cX10_setGate 26 = .ok (.getfield 26, 3) := by decide +kernel
theorem dX10_setGate_29 : decode cX10_setGate 29 = .ok (.getfield 176, 3) := by decide +kernel
theorem dX10_setGate_32 : decode cX10_setGate 32 = .ok (.istore_n 2, 1) := by decide +kernel
theorem dX10_setGate_33 : decode cX10_setGate 33 = .ok (.aload_n 0, 1) := by decide +kernel
theorem dX10_setGate_34 : decode cX10_setGate 34 = .ok (.getfield 26, 3) := by decide +kernel
theorem dX10_setGate_37 : decode cX10_setGate 37 = .ok (.iload_n 1, 1) := by decide +kernel
theorem dX10_setGate_38 : decode cX10_setGate 38 = .ok (.putfield 176, 3) := by decide +kernel
theorem dX10_setGate_41 : decode cX10_setGate 41 = .ok (.iload_n 2, 1) := by decide +kernel
theorem dX10_setGate_42 : decode cX10_setGate 42 = .ok (.ireturn, 1) := by decide +kernel
theorem dX10_runScript_0 : decode cX10_runScript 0 = .ok (.aload_n 0, 1) := by decide +kernel
theorem dX10_runScript_1 : decode cX10_runScript 1 = .ok (.getfield 10, 3) := by decide +kernel
theorem dX10_runScript_4 : decode cX10_runScript 4 = .ok (.invokevirtual 76, 3) := by decide +kernel
theorem dX10_runScript_7 : decode cX10_runScript 7 = .ok (.aload_n 0, 1) := by decide +kernel
theorem dX10_runScript_8 : decode cX10_runScript 8 = .ok (.getfield 30, 3) := by decide +kernel
theorem dX10_runScript_11 : decode cX10_runScript 11 = .ok (.aload_n 0, 1) := by decide +kernel
theorem dX10_runScript_12 : decode cX10_runScript 12 = .ok (.getfield 26, 3) := by decide +kernel
theorem dX10_runScript_15 : decode cX10_runScript 15 = .ok (.invokevirtual 101, 3) := by decide +kernel
theorem dX10_runScript_18 : decode cX10_runScript 18 = .ok (.new 179, 3) := by decide +kernel
theorem dX10_runScript_21 : decode cX10_runScript 21 = .ok (.dup, 1) := by decide +kernel
theorem dX10_runScript_22 : decode cX10_runScript 22 = .ok (.aload_n 0, 1) := by decide +kernel
theorem dX10_runScript_23 : decode cX10_runScript 23 = .ok (.getfield 10, 3) := by decide +kernel
theorem dX10_runScript_26 : decode cX10_runScript 26 = .ok (.aload_n 0, 1) := by decide +kernel
theorem dX10_runScript_27 : decode cX10_runScript 27 = .ok (.getfield 30, 3) := by decide +kernel
theorem dX10_runScript_30 : decode cX10_runScript 30 = .ok (.aload_n 0, 1) := by decide +kernel
theorem dX10_runScript_31 : decode cX10_runScript 31 = .ok (.getfield 36, 3) := by decide +kernel
theorem dX10_runScript_34 : decode cX10_runScript 34 = .ok (.invokespecial 181, 3) := by decide +kernel
theorem dX10_runScript_37 : decode cX10_runScript 37 = .ok (.astore_n 1, 1) := by decide +kernel
theorem dX10_runScript_38 : decode cX10_runScript 38 = .ok (.iconst 0, 1) := by decide +kernel
theorem dX10_runScript_39 : decode cX10_runScript 39 = .ok (.istore_n 2, 1) := by decide +kernel
theorem dX10_runScript_40 : decode cX10_runScript 40 = .ok (.aload_n 0, 1) := by decide +kernel
theorem dX10_runScript_41 : decode cX10_runScript 41 = .ok (.getfield 10, 3) := by decide +kernel
theorem dX10_runScript_44 : decode cX10_runScript 44 = .ok (.invokevirtual 184, 3) := by decide +kernel
theorem dX10_runScript_47 : decode cX10_runScript 47 = .ok (.aload_n 0, 1) := by decide +kernel
theorem dX10_runScript_48 : decode cX10_runScript 48 = .ok (.getfield 10, 3) := by decide +kernel
theorem dX10_runScript_51 : decode cX10_runScript 51 = .ok (.getfield 187, 3) := by decide +kernel
theorem dX10_runScript_54 : decode cX10_runScript 54 = .ok (.ifCond .eq 59, 3) := by decide +kernel
theorem dX10_runScript_57 : decode cX10_runScript 57 = .ok (.iload_n 2, 1) := by decide +kernel
theorem dX10_runScript_58 : decode cX10_runScript 58 = .ok (.sipush 400, 3) := by decide +kernel
theorem dX10_runScript_61 : decode cX10_runScript 61 = .ok (.if_icmp .ge 52, 3) := by decide +kernel
theorem dX10_runScript_64 : decode cX10_runScript 64 = .ok (.aload_n 0, 1) := by decide +kernel
theorem dX10_runScript_65 : decode cX10_runScript 65 = .ok (.getfield 10, 3) := by decide +kernel
theorem dX10_runScript_68 : decode cX10_runScript 68 = .ok (.getfield 91, 3) := by decide +kernel
theorem dX10_runScript_71 : decode cX10_runScript 71 = .ok (.istore_n 3, 1) := by decide +kernel
theorem dX10_runScript_72 : decode cX10_runScript 72 = .ok (.aload_n 1, 1) := by decide +kernel
theorem dX10_runScript_73 : decode cX10_runScript 73 = .ok (.invokevirtual 190, 3) := by decide +kernel
theorem dX10_runScript_76 : decode cX10_runScript 76 = .ok (.ifCond .ne 13, 3) := by decide +kernel
theorem dX10_runScript_79 : decode cX10_runScript 79 = .ok (.iconst (-1), 1) := by decide +kernel
theorem dX10_runScript_80 : decode cX10_runScript 80 = .ok (.aload_n 0, 1) := by decide +kernel
theorem dX10_runScript_81 : decode cX10_runScript 81 = .ok (.getfield 10, 3) := by decide +kernel
theorem dX10_runScript_84 : decode cX10_runScript 84 = .ok (.getfield 91, 3) := by decide +kernel
theorem dX10_runScript_87 : decode cX10_runScript 87 = .ok (.isub, 1) := by decide +kernel
theorem dX10_runScript_88 : decode cX10_runScript 88 = .ok (.ireturn, 1) := by decide +kernel
theorem dX10_runScript_89 : decode cX10_runScript 89 = .ok (.aload_n 1, 1) := by decide +kernel
theorem dX10_runScript_90 : decode cX10_runScript 90 = .ok (.invokevirtual 193, 3) := by decide +kernel
theorem dX10_runScript_93 : decode cX10_runScript 93 = .ok (.ifCond .ne 7, 3) := by decide +kernel
theorem dX10_runScript_96 : decode cX10_runScript 96 = .ok (.iconst (-1), 1) := by decide +kernel
theorem dX10_runScript_97 : decode cX10_runScript 97 = .ok (.iload_n 3, 1) := by decide +kernel
theorem dX10_runScript_98 : decode cX10_runScript 98 = .ok (.isub, 1) := by decide +kernel
theorem dX10_runScript_99 : decode cX10_runScript 99 = .ok (.ireturn, 1) := by decide +kernel
theorem dX10_runScript_100 : decode cX10_runScript 100 = .ok (.iinc 2 1, 3) := by decide +kernel
theorem dX10_runScript_103 : decode cX10_runScript 103 = .ok (.aload_n 0, 1) := by decide +kernel
theorem dX10_runScript_104 : decode cX10_runScript 104 = .ok (.getfield 10, 3) := by decide +kernel
theorem dX10_runScript_107 : decode cX10_runScript 107 = .ok (.invokevirtual 184, 3) := by decide +kernel
theorem dX10_runScript_110 : decode cX10_runScript 110 = .ok (.goto (-63), 3) := by decide +kernel
theorem dX10_runScript_113 : decode cX10_runScript 113 = .ok (.aload_n 0, 1) := by decide +kernel
theorem dX10_runScript_114 : decode cX10_runScript 114 = .ok (.invokevirtual 112, 3) := by decide +kernel
theorem dX10_runScript_117 : decode cX10_runScript 117 = .ok (.aload_n 0, 1) := by decide +kernel
theorem dX10_runScript_118 : decode cX10_runScript 118 = .ok (.getfield 26, 3) := by decide +kernel
theorem dX10_runScript_121 : decode cX10_runScript 121 = .ok (.aload_n 0, 1) := by decide +kernel
theorem dX10_runScript_122 : decode cX10_runScript 122 = .ok (.getfield 30, 3) := by decide +kernel
theorem dX10_runScript_125 : decode cX10_runScript 125 = .ok (.invokevirtual 101, 3) := by decide +kernel
theorem dX10_runScript_128 : decode cX10_runScript 128 = .ok (.iload_n 2, 1) := by decide +kernel
theorem dX10_runScript_129 : decode cX10_runScript 129 = .ok (.ireturn, 1) := by decide +kernel
theorem dX10_remember_0 : decode cX10_remember 0 = .ok (.aload_n 0, 1) := by decide +kernel
theorem dX10_remember_1 : decode cX10_remember 1 = .ok (.aload_n 0, 1) := by decide +kernel
theorem dX10_remember_2 : decode cX10_remember 2 = .ok (.getfield 44, 3) := by decide +kernel
theorem dX10_remember_5 : decode cX10_remember 5 = .ok (.iconst 1, 1) := by decide +kernel
theorem dX10_remember_6 : decode cX10_remember 6 = .ok (.iadd, 1) := by decide +kernel
theorem dX10_remember_7 : decode cX10_remember 7 = .ok (.bipush 10, 2) := by decide +kernel
theorem dX10_remember_9 : decode cX10_remember 9 = .ok (.if_icmp .ge 12, 3) := by decide +kernel
theorem dX10_remember_12 : decode cX10_remember 12 = .ok (.aload_n 0, 1) := by decide +kernel
theorem dX10_remember_13 : decode cX10_remember 13 = .ok (.getfield 44, 3) := by decide +kernel
theorem dX10_remember_16 : decode cX10_remember 16 = .ok (.iconst 1, 1) := by decide +kernel
theorem dX10_remember_17 : decode cX10_remember 17 = .ok (.iadd, 1) := by decide +kernel
theorem dX10_remember_18 : decode cX10_remember 18 = .ok (.goto 4, 3) := by decide +kernel
theorem dX10_remember_21 : decode cX10_remember 21 = .ok (.iconst 0, 1) := by decide +kernel
theorem dX10_remember_22 : decode cX10_remember 22 = .ok (.putfield 44, 3) := by decide +kernel
theorem dX10_remember_25 : decode cX10_remember 25 = .ok (.aload_n 0, 1) := by decide +kernel
theorem dX10_remember_26 : decode cX10_remember 26 = .ok (.getfield 40, 3) := by decide +kernel
theorem dX10_remember_29 : decode cX10_remember 29 = .ok (.aload_n 0, 1) := by decide +kernel
theorem dX10_remember_30 : decode cX10_remember 30 = .ok (.getfield 44, 3) := by decide +kernel
theorem dX10_remember_33 : decode cX10_remember 33 = .ok (.aaload, 1) := by decide +kernel
theorem dX10_remember_34 : decode cX10_remember 34 = .ok (.ifnonnull 19, 3) := by decide +kernel
theorem dX10_remember_37 : decode cX10_remember 37 = .ok (.aload_n 0, 1) := by decide +kernel
theorem dX10_remember_38 : decode cX10_remember 38 = .ok (.getfield 40, 3) := by decide +kernel
theorem dX10_remember_41 : decode cX10_remember 41 = .ok (.aload_n 0, 1) := by decide +kernel
theorem dX10_remember_42 : decode cX10_remember 42 = .ok (.getfield 44, 3) := by decide +kernel
theorem dX10_remember_45 : decode cX10_remember 45 = .ok (.new 23, 3) := by decide +kernel
theorem dX10_remember_48 : decode cX10_remember 48 = .ok (.dup, 1) := by decide +kernel
theorem dX10_remember_49 : decode cX10_remember 49 = .ok (.invokespecial 25, 3) := by decide +kernel
theorem dX10_remember_52 : decode cX10_remember 52 = .ok (.aastore, 1) := by decide +kernel
theorem dX10_remember_53 : decode cX10_remember 53 = .ok (.aload_n 0, 1) := by decide +kernel
theorem dX10_remember_54 : decode cX10_remember 54 = .ok (.getfield 40, 3) := by decide +kernel
theorem dX10_remember_57 : decode cX10_remember 57 = .ok (.aload_n 0, 1) := by decide +kernel
theorem dX10_remember_58 : decode cX10_remember 58 = .ok (.getfield 44, 3) := by decide +kernel
theorem dX10_remember_61 : decode cX10_remember 61 = .ok (.aaload, 1) := by decide +kernel
theorem dX10_remember_62 : decode cX10_remember 62 = .ok (.aload_n 0, 1) := by decide +kernel
theorem dX10_remember_63 : decode cX10_remember 63 = .ok (.getfield 26, 3) := by decide +kernel
theorem dX10_remember_66 : decode cX10_remember 66 = .ok (.invokevirtual 101, 3) := by decide +kernel
theorem dX10_remember_69 : decode cX10_remember 69 = .ok (.aload_n 0, 1) := by decide +kernel
theorem dX10_remember_70 : decode cX10_remember 70 = .ok (.getfield 47, 3) := by decide +kernel
theorem dX10_remember_73 : decode cX10_remember 73 = .ok (.bipush 10, 2) := by decide +kernel
theorem dX10_remember_75 : decode cX10_remember 75 = .ok (.if_icmp .ge 13, 3) := by decide +kernel
theorem dX10_remember_78 : decode cX10_remember 78 = .ok (.aload_n 0, 1) := by decide +kernel
theorem dX10_remember_79 : decode cX10_remember 79 = .ok (.dup, 1) := by decide +kernel
theorem dX10_remember_80 : decode cX10_remember 80 = .ok (.getfield 47, 3) := by decide +kernel
theorem dX10_remember_83 : decode cX10_remember 83 = .ok (.iconst 1, 1) := by decide +kernel
theorem dX10_remember_84 : decode cX10_remember 84 = .ok (.iadd, 1) := by decide +kernel
theorem dX10_remember_85 : decode cX10_remember 85 = .ok (.putfield 47, 3) := by decide +kernel
theorem dX10_remember_88 : decode cX10_remember 88 = .ok (.return_, 1) := by decide +kernel
theorem dX10_refuse_0 : decode cX10_refuse 0 = .ok (.iload_n 0, 1) := by decide +kernel
theorem dX10_refuse_1 : decode cX10_refuse 1 = .ok (.iconst 1, 1) := by decide +kernel
theorem dX10_refuse_2 : decode cX10_refuse 2 = .ok (.if_icmp .ne 13, 3) := by decide +kernel
theorem dX10_refuse_5 : decode cX10_refuse 5 = .ok (.new 196, 3) := by decide +kernel
theorem dX10_refuse_8 : decode cX10_refuse 8 = .ok (.dup, 1) := by decide +kernel
theorem dX10_refuse_9 : decode cX10_refuse 9 = .ok (.ldc 198, 2) := by decide +kernel
theorem dX10_refuse_11 : decode cX10_refuse 11 = .ok (.invokespecial 200, 3) := by decide +kernel
theorem dX10_refuse_14 : decode cX10_refuse 14 = .ok (.athrow, 1) := by decide +kernel
theorem dX10_refuse_15 : decode cX10_refuse 15 = .ok (.iload_n 0, 1) := by decide +kernel
theorem dX10_refuse_16 : decode cX10_refuse 16 = .ok (.iconst 2, 1) := by decide +kernel
theorem dX10_refuse_17 : decode cX10_refuse 17 = .ok (.if_icmp .ne 13, 3) := by decide +kernel
theorem dX10_refuse_20 : decode cX10_refuse 20 = .ok (.new 71, 3) := by decide +kernel
theorem dX10_refuse_23 : decode cX10_refuse 23 = .ok (.dup, 1) := by decide +kernel
theorem dX10_refuse_24 : decode cX10_refuse 24 = .ok (.ldc 201, 2) := by decide +kernel
theorem dX10_refuse_26 : decode cX10_refuse 26 = .ok (.invokespecial 75, 3) := by decide +kernel
theorem dX10_refuse_29 : decode cX10_refuse 29 = .ok (.athrow, 1) := by decide +kernel
theorem dX10_refuse_30 : decode cX10_refuse 30 = .ok (.iload_n 0, 1) := by decide +kernel
theorem dX10_refuse_31 : decode cX10_refuse 31 = .ok (.iconst 3, 1) := by decide +kernel
theorem dX10_refuse_32 : decode cX10_refuse 32 = .ok (.if_icmp .ne 13, 3) := by decide +kernel
theorem dX10_refuse_35 : decode cX10_refuse 35 = .ok (.new 60, 3) := by decide +kernel
theorem dX10_refuse_38 : decode cX10_refuse 38 = .ok (.dup, 1) := by decide +kernel
theorem dX10_refuse_39 : decode cX10_refuse 39 = .ok (.ldc 203, 2) := by decide +kernel
theorem dX10_refuse_41 : decode cX10_refuse 41 = .ok (.invokespecial 64, 3) := by decide +kernel
theorem dX10_refuse_44 : decode cX10_refuse 44 = .ok (.athrow, 1) := by decide +kernel
theorem dX10_refuse_45 : decode cX10_refuse 45 = .ok (.return_, 1) := by decide +kernel
theorem dX10_checkInvestor_0 : decode cX10_checkInvestor 0 = .ok (.aload_n 0, 1) := by decide +kernel
theorem dX10_checkInvestor_1 : decode cX10_checkInvestor 1 = .ok (.getfield 26, 3) := by decide +kernel
theorem dX10_checkInvestor_4 : decode cX10_checkInvestor 4 = .ok (.iload_n 1, 1) := by decide +kernel
theorem dX10_checkInvestor_5 : decode cX10_checkInvestor 5 = .ok (.invokevirtual 205, 3) := by decide +kernel
theorem dX10_checkInvestor_8 : decode cX10_checkInvestor 8 = .ok (.ifCond .eq 7, 3) := by decide +kernel
theorem dX10_checkInvestor_11 : decode cX10_checkInvestor 11 = .ok (.iconst 0, 1) := by decide +kernel
theorem dX10_checkInvestor_12 : decode cX10_checkInvestor 12 = .ok (.goto 4, 3) := by decide +kernel
theorem dX10_checkInvestor_15 : decode cX10_checkInvestor 15 = .ok (.iconst 1, 1) := by decide +kernel
theorem dX10_checkInvestor_16 : decode cX10_checkInvestor 16 = .ok (.invokestatic 109, 3) := by decide +kernel
theorem dX10_checkInvestor_19 : decode cX10_checkInvestor 19 = .ok (.return_, 1) := by decide +kernel
theorem dX10_checkRequest_0 : decode cX10_checkRequest 0 = .ok (.iload_n 1, 1) := by decide +kernel
theorem dX10_checkRequest_1 : decode cX10_checkRequest 1 = .ok (.ifCond .lt 18, 3) := by decide +kernel
theorem dX10_checkRequest_4 : decode cX10_checkRequest 4 = .ok (.iload_n 1, 1) := by decide +kernel
theorem dX10_checkRequest_5 : decode cX10_checkRequest 5 = .ok (.aload_n 0, 1) := by decide +kernel
theorem dX10_checkRequest_6 : decode cX10_checkRequest 6 = .ok (.getfield 26, 3) := by decide +kernel
theorem dX10_checkRequest_9 : decode cX10_checkRequest 9 = .ok (.getfield 94, 3) := by decide +kernel
theorem dX10_checkRequest_12 : decode cX10_checkRequest 12 = .ok (.if_icmp .ge 7, 3) := by decide +kernel
theorem dX10_checkRequest_15 : decode cX10_checkRequest 15 = .ok (.iconst 0, 1) := by decide +kernel
theorem dX10_checkRequest_16 : decode cX10_checkRequest 16 = .ok (.goto 4, 3) := by decide +kernel
theorem dX10_checkRequest_19 : decode cX10_checkRequest 19 = .ok (.iconst 1, 1) := by decide +kernel
theorem dX10_checkRequest_20 : decode cX10_checkRequest 20 = .ok (.invokestatic 109, 3) := by decide +kernel
theorem dX10_checkRequest_23 : decode cX10_checkRequest 23 = .ok (.return_, 1) := by decide +kernel
theorem dX10_placeOf_0 : decode cX10_placeOf 0 = .ok (.aload_n 0, 1) := by decide +kernel
theorem dX10_placeOf_1 : decode cX10_placeOf 1 = .ok (.getfield 26, 3) := by decide +kernel
theorem dX10_placeOf_4 : decode cX10_placeOf 4 = .ok (.iload_n 1, 1) := by decide +kernel
theorem dX10_placeOf_5 : decode cX10_placeOf 5 = .ok (.invokevirtual 209, 3) := by decide +kernel
theorem dX10_placeOf_8 : decode cX10_placeOf 8 = .ok (.istore_n 2, 1) := by decide +kernel
theorem dX10_placeOf_9 : decode cX10_placeOf 9 = .ok (.iload_n 2, 1) := by decide +kernel
theorem dX10_placeOf_10 : decode cX10_placeOf 10 = .ok (.iconst (-1), 1) := by decide +kernel
theorem dX10_placeOf_11 : decode cX10_placeOf 11 = .ok (.if_icmp .ne 7, 3) := by decide +kernel
theorem dX10_placeOf_14 : decode cX10_placeOf 14 = .ok (.iconst 1, 1) := by decide +kernel
theorem dX10_placeOf_15 : decode cX10_placeOf 15 = .ok (.goto 4, 3) := by decide +kernel
theorem dX10_placeOf_18 : decode cX10_placeOf 18 = .ok (.iconst 0, 1) := by decide +kernel
theorem dX10_placeOf_19 : decode cX10_placeOf 19 = .ok (.invokestatic 109, 3) := by decide +kernel
theorem dX10_placeOf_22 : decode cX10_placeOf 22 = .ok (.iload_n 2, 1) := by decide +kernel
theorem dX10_placeOf_23 : decode cX10_placeOf 23 = .ok (.ireturn, 1) := by decide +kernel
theorem dX10_count_0 : decode cX10_count 0 = .ok (.iload_n 1, 1) := by decide +kernel
theorem dX10_count_1 : decode cX10_count 1 = .ok (.tableswitch 135 0 9 #[55, 63, 71, 79, 87, 95, 103, 111, 119, 127], 55) := by decide +kernel
theorem dX10_count_56 : decode cX10_count 56 = .ok (.aload_n 0, 1) := by decide +kernel
theorem dX10_count_57 : decode cX10_count 57 = .ok (.getfield 26, 3) := by decide +kernel
theorem dX10_count_60 : decode cX10_count 60 = .ok (.getfield 212, 3) := by decide +kernel
theorem dX10_count_63 : decode cX10_count 63 = .ok (.ireturn, 1) := by decide +kernel
theorem dX10_count_64 : decode cX10_count 64 = .ok (.aload_n 0, 1) := by decide +kernel
theorem dX10_count_65 : decode cX10_count 65 = .ok (.getfield 26, 3) := by decide +kernel
theorem dX10_count_68 : decode cX10_count 68 = .ok (.getfield 215, 3) := by decide +kernel
theorem dX10_count_71 : decode cX10_count 71 = .ok (.ireturn, 1) := by decide +kernel
theorem dX10_count_72 : decode cX10_count 72 = .ok (.aload_n 0, 1) := by decide +kernel
theorem dX10_count_73 : decode cX10_count 73 = .ok (.getfield 26, 3) := by decide +kernel
theorem dX10_count_76 : decode cX10_count 76 = .ok (.getfield 218, 3) := by decide +kernel
theorem dX10_count_79 : decode cX10_count 79 = .ok (.ireturn, 1) := by decide +kernel
theorem dX10_count_80 : decode cX10_count 80 = .ok (.aload_n 0, 1) := by decide +kernel
theorem dX10_count_81 : decode cX10_count 81 = .ok (.getfield 26, 3) := by decide +kernel
theorem dX10_count_84 : decode cX10_count 84 = .ok (.getfield 221, 3) := by decide +kernel
theorem dX10_count_87 : decode cX10_count 87 = .ok (.ireturn, 1) := by decide +kernel
theorem dX10_count_88 : decode cX10_count 88 = .ok (.aload_n 0, 1) := by decide +kernel
theorem dX10_count_89 : decode cX10_count 89 = .ok (.getfield 26, 3) := by decide +kernel
theorem dX10_count_92 : decode cX10_count 92 = .ok (.getfield 176, 3) := by decide +kernel
theorem dX10_count_95 : decode cX10_count 95 = .ok (.ireturn, 1) := by decide +kernel
theorem dX10_count_96 : decode cX10_count 96 = .ok (.aload_n 0, 1) := by decide +kernel
theorem dX10_count_97 : decode cX10_count 97 = .ok (.getfield 26, 3) := by decide +kernel
theorem dX10_count_100 : decode cX10_count 100 = .ok (.getfield 224, 3) := by decide +kernel
theorem dX10_count_103 : decode cX10_count 103 = .ok (.ireturn, 1) := by decide +kernel
theorem dX10_count_104 : decode cX10_count 104 = .ok (.aload_n 0, 1) := by decide +kernel
theorem dX10_count_105 : decode cX10_count 105 = .ok (.getfield 26, 3) := by decide +kernel
theorem dX10_count_108 : decode cX10_count 108 = .ok (.getfield 227, 3) := by decide +kernel
theorem dX10_count_111 : decode cX10_count 111 = .ok (.ireturn, 1) := by decide +kernel
theorem dX10_count_112 : decode cX10_count 112 = .ok (.aload_n 0, 1) := by decide +kernel
theorem dX10_count_113 : decode cX10_count 113 = .ok (.getfield 26, 3) := by decide +kernel
theorem dX10_count_116 : decode cX10_count 116 = .ok (.getfield 230, 3) := by decide +kernel
theorem dX10_count_119 : decode cX10_count 119 = .ok (.ireturn, 1) := by decide +kernel
theorem dX10_count_120 : decode cX10_count 120 = .ok (.aload_n 0, 1) := by decide +kernel
theorem dX10_count_121 : decode cX10_count 121 = .ok (.getfield 26, 3) := by decide +kernel
theorem dX10_count_124 : decode cX10_count 124 = .ok (.getfield 94, 3) := by decide +kernel
theorem dX10_count_127 : decode cX10_count 127 = .ok (.ireturn, 1) := by decide +kernel
theorem dX10_count_128 : decode cX10_count 128 = .ok (.aload_n 0, 1) := by decide +kernel
theorem dX10_count_129 : decode cX10_count 129 = .ok (.getfield 26, 3) := by decide +kernel
theorem dX10_count_132 : decode cX10_count 132 = .ok (.getfield 233, 3) := by decide +kernel
theorem dX10_count_135 : decode cX10_count 135 = .ok (.ireturn, 1) := by decide +kernel
theorem dX10_count_136 : decode cX10_count 136 = .ok (.new 71, 3) := by decide +kernel
theorem dX10_count_139 : decode cX10_count 139 = .ok (.dup, 1) := by decide +kernel
theorem dX10_count_140 : decode cX10_count 140 = .ok (.ldc 236, 2) := by decide +kernel
theorem dX10_count_142 : decode cX10_count 142 = .ok (.invokespecial 75, 3) := by decide +kernel
theorem dX10_count_145 : decode cX10_count 145 = .ok (.athrow, 1) := by decide +kernel
theorem dX10_netAssets_0 : decode cX10_netAssets 0 = .ok (.aload_n 0, 1) := by decide +kernel
theorem dX10_netAssets_1 : decode cX10_netAssets 1 = .ok (.getfield 26, 3) := by decide +kernel
theorem dX10_netAssets_4 : decode cX10_netAssets 4 = .ok (.invokevirtual 238, 3) := by decide +kernel
theorem dX10_netAssets_7 : decode cX10_netAssets 7 = .ok (.lreturn, 1) := by decide +kernel
theorem dX10_account_0 : decode cX10_account 0 = .ok (.iload_n 1, 1) := by decide +kernel
theorem dX10_account_1 : decode cX10_account 1 = .ok (.ifCond .lt 9, 3) := by decide +kernel
theorem dX10_account_4 : decode cX10_account 4 = .ok (.iload_n 1, 1) := by decide +kernel
theorem dX10_account_5 : decode cX10_account 5 = .ok (.bipush 6, 2) := by decide +kernel
theorem dX10_account_7 : decode cX10_account 7 = .ok (.if_icmp .lt 13, 3) := by decide +kernel
theorem dX10_account_10 : decode cX10_account 10 = .ok (.new 71, 3) := by decide +kernel
theorem dX10_account_13 : decode cX10_account 13 = .ok (.dup, 1) := by decide +kernel
theorem dX10_account_14 : decode cX10_account 14 = .ok (.ldc 242, 2) := by decide +kernel
theorem dX10_account_16 : decode cX10_account 16 = .ok (.invokespecial 75, 3) := by decide +kernel
theorem dX10_account_19 : decode cX10_account 19 = .ok (.athrow, 1) := by decide +kernel
theorem dX10_account_20 : decode cX10_account 20 = .ok (.aload_n 0, 1) := by decide +kernel
theorem dX10_account_21 : decode cX10_account 21 = .ok (.getfield 26, 3) := by decide +kernel
theorem dX10_account_24 : decode cX10_account 24 = .ok (.getfield 244, 3) := by decide +kernel
theorem dX10_account_27 : decode cX10_account 27 = .ok (.iload_n 1, 1) := by decide +kernel
theorem dX10_account_28 : decode cX10_account 28 = .ok (.laload, 1) := by decide +kernel
theorem dX10_account_29 : decode cX10_account 29 = .ok (.lreturn, 1) := by decide +kernel
theorem dX10_openSeries_0 : decode cX10_openSeries 0 = .ok (.iload_n 1, 1) := by decide +kernel
theorem dX10_openSeries_1 : decode cX10_openSeries 1 = .ok (.ifCond .lt 14, 3) := by decide +kernel
theorem dX10_openSeries_4 : decode cX10_openSeries 4 = .ok (.iload_n 1, 1) := by decide +kernel
theorem dX10_openSeries_5 : decode cX10_openSeries 5 = .ok (.aload_n 0, 1) := by decide +kernel
theorem dX10_openSeries_6 : decode cX10_openSeries 6 = .ok (.getfield 26, 3) := by decide +kernel
theorem dX10_openSeries_9 : decode cX10_openSeries 9 = .ok (.getfield 227, 3) := by decide +kernel
theorem dX10_openSeries_12 : decode cX10_openSeries 12 = .ok (.if_icmp .lt 13, 3) := by decide +kernel
theorem dX10_openSeries_15 : decode cX10_openSeries 15 = .ok (.new 196, 3) := by decide +kernel
theorem dX10_openSeries_18 : decode cX10_openSeries 18 = .ok (.dup, 1) := by decide +kernel
theorem dX10_openSeries_19 : decode cX10_openSeries 19 = .ok (.ldc 248, 2) := by decide +kernel
theorem dX10_openSeries_21 : decode cX10_openSeries 21 = .ok (.invokespecial 200, 3) := by decide +kernel
theorem dX10_openSeries_24 : decode cX10_openSeries 24 = .ok (.athrow, 1) := by decide +kernel
theorem dX10_openSeries_25 : decode cX10_openSeries 25 = .ok (.aload_n 0, 1) := by decide +kernel
theorem dX10_openSeries_26 : decode cX10_openSeries 26 = .ok (.getfield 26, 3) := by decide +kernel
theorem dX10_openSeries_29 : decode cX10_openSeries 29 = .ok (.getfield 250, 3) := by decide +kernel
theorem dX10_openSeries_32 : decode cX10_openSeries 32 = .ok (.iload_n 1, 1) := by decide +kernel
theorem dX10_openSeries_33 : decode cX10_openSeries 33 = .ok (.aaload, 1) := by decide +kernel
theorem dX10_openSeries_34 : decode cX10_openSeries 34 = .ok (.getfield 254, 3) := by decide +kernel
theorem dX10_openSeries_37 : decode cX10_openSeries 37 = .ok (.ireturn, 1) := by decide +kernel
theorem dX10_seriesValue_0 : decode cX10_seriesValue 0 = .ok (.aload_n 0, 1) := by decide +kernel
theorem dX10_seriesValue_1 : decode cX10_seriesValue 1 = .ok (.getfield 26, 3) := by decide +kernel
theorem dX10_seriesValue_4 : decode cX10_seriesValue 4 = .ok (.getfield 250, 3) := by decide +kernel
theorem dX10_seriesValue_7 : decode cX10_seriesValue 7 = .ok (.aload_n 0, 1) := by decide +kernel
theorem dX10_seriesValue_8 : decode cX10_seriesValue 8 = .ok (.iload_n 1, 1) := by decide +kernel
theorem dX10_seriesValue_9 : decode cX10_seriesValue 9 = .ok (.invokevirtual 259, 3) := by decide +kernel
theorem dX10_seriesValue_12 : decode cX10_seriesValue 12 = .ok (.aaload, 1) := by decide +kernel
theorem dX10_seriesValue_13 : decode cX10_seriesValue 13 = .ok (.astore_n 3, 1) := by decide +kernel
theorem dX10_seriesValue_14 : decode cX10_seriesValue 14 = .ok (.iload_n 2, 1) := by decide +kernel
theorem dX10_seriesValue_15 : decode cX10_seriesValue 15 = .ok (.tableswitch 105 0 7 #[45, 50, 55, 60, 72, 77, 89, 95], 45) := by decide +kernel
theorem dX10_seriesValue_60 : decode cX10_seriesValue 60 = .ok (.aload_n 3, 1) := by decide +kernel
theorem dX10_seriesValue_61 : decode cX10_seriesValue 61 = .ok (.getfield 262, 3) := by decide +kernel
theorem dX10_seriesValue_64 : decode cX10_seriesValue 64 = .ok (.lreturn, 1) := by decide +kernel
theorem dX10_seriesValue_65 : decode cX10_seriesValue 65 = .ok (.aload_n 3, 1) := by decide +kernel
theorem dX10_seriesValue_66 : decode cX10_seriesValue 66 = .ok (.getfield 265, 3) := by decide +kernel
theorem dX10_seriesValue_69 : decode cX10_seriesValue 69 = .ok (.lreturn, 1) := by decide +kernel
theorem dX10_seriesValue_70 : decode cX10_seriesValue 70 = .ok (.aload_n 3, 1) := by decide +kernel
theorem dX10_seriesValue_71 : decode cX10_seriesValue 71 = .ok (.getfield 268, 3) := by decide +kernel
theorem dX10_seriesValue_74 : decode cX10_seriesValue 74 = .ok (.lreturn, 1) := by decide +kernel
theorem dX10_seriesValue_75 : decode cX10_seriesValue 75 = .ok (.aload_n 3, 1) := by decide +kernel
theorem dX10_seriesValue_76 : decode cX10_seriesValue 76 = .ok (.aload_n 0, 1) := by decide +kernel
theorem dX10_seriesValue_77 : decode cX10_seriesValue 77 = .ok (.getfield 26, 3) := by decide +kernel
theorem dX10_seriesValue_80 : decode cX10_seriesValue 80 = .ok (.getfield 221, 3) := by decide +kernel
theorem dX10_seriesValue_83 : decode cX10_seriesValue 83 = .ok (.invokevirtual 271, 3) := by decide +kernel
theorem dX10_seriesValue_86 : decode cX10_seriesValue 86 = .ok (.lreturn, 1) := by decide +kernel
theorem dX10_seriesValue_87 : decode cX10_seriesValue 87 = .ok (.aload_n 3, 1) := by decide +kernel
theorem dX10_seriesValue_88 : decode cX10_seriesValue 88 = .ok (.invokevirtual 274, 3) := by decide +kernel
theorem dX10_seriesValue_91 : decode cX10_seriesValue 91 = .ok (.lreturn, 1) := by decide +kernel
theorem dX10_seriesValue_92 : decode cX10_seriesValue 92 = .ok (.aload_n 3, 1) := by decide +kernel
theorem dX10_seriesValue_93 : decode cX10_seriesValue 93 = .ok (.aload_n 0, 1) := by decide +kernel
theorem dX10_seriesValue_94 : decode cX10_seriesValue 94 = .ok (.getfield 26, 3) := by decide +kernel
theorem dX10_seriesValue_97 : decode cX10_seriesValue 97 = .ok (.getfield 221, 3) := by decide +kernel
theorem dX10_seriesValue_100 : decode cX10_seriesValue 100 = .ok (.invokevirtual 277, 3) := by decide +kernel
theorem dX10_seriesValue_103 : decode cX10_seriesValue 103 = .ok (.lreturn, 1) := by decide +kernel
theorem dX10_seriesValue_104 : decode cX10_seriesValue 104 = .ok (.aload_n 3, 1) := by decide +kernel
theorem dX10_seriesValue_105 : decode cX10_seriesValue 105 = .ok (.getfield 280, 3) := by decide +kernel
theorem dX10_seriesValue_108 : decode cX10_seriesValue 108 = .ok (.i2l, 1) := by decide +kernel
theorem dX10_seriesValue_109 : decode cX10_seriesValue 109 = .ok (.lreturn, 1) := by decide +kernel
theorem dX10_seriesValue_110 : decode cX10_seriesValue 110 = .ok (.aload_n 0, 1) := by decide +kernel
theorem dX10_seriesValue_111 : decode cX10_seriesValue 111 = .ok (.getfield 26, 3) := by decide +kernel
theorem dX10_seriesValue_114 : decode cX10_seriesValue 114 = .ok (.iload_n 1, 1) := by decide +kernel
theorem dX10_seriesValue_115 : decode cX10_seriesValue 115 = .ok (.invokevirtual 283, 3) := by decide +kernel
theorem dX10_seriesValue_118 : decode cX10_seriesValue 118 = .ok (.i2l, 1) := by decide +kernel
theorem dX10_seriesValue_119 : decode cX10_seriesValue 119 = .ok (.lreturn, 1) := by decide +kernel
theorem dX10_seriesValue_120 : decode cX10_seriesValue 120 = .ok (.new 71, 3) := by decide +kernel
theorem dX10_seriesValue_123 : decode cX10_seriesValue 123 = .ok (.dup, 1) := by decide +kernel
theorem dX10_seriesValue_124 : decode cX10_seriesValue 124 = .ok (.ldc_w 286, 3) := by decide +kernel
theorem dX10_seriesValue_127 : decode cX10_seriesValue 127 = .ok (.invokespecial 75, 3) := by decide +kernel
theorem dX10_seriesValue_130 : decode cX10_seriesValue 130 = .ok (.athrow, 1) := by decide +kernel
theorem dX10_lot_0 : decode cX10_lot 0 = .ok (.iload_n 1, 1) := by decide +kernel
theorem dX10_lot_1 : decode cX10_lot 1 = .ok (.ifCond .lt 14, 3) := by decide +kernel
theorem dX10_lot_4 : decode cX10_lot 4 = .ok (.iload_n 1, 1) := by decide +kernel
theorem dX10_lot_5 : decode cX10_lot 5 = .ok (.aload_n 0, 1) := by decide +kernel
theorem dX10_lot_6 : decode cX10_lot 6 = .ok (.getfield 26, 3) := by decide +kernel
theorem dX10_lot_9 : decode cX10_lot 9 = .ok (.getfield 230, 3) := by decide +kernel
theorem dX10_lot_12 : decode cX10_lot 12 = .ok (.if_icmp .lt 14, 3) := by decide +kernel
theorem dX10_lot_15 : decode cX10_lot 15 = .ok (.new 196, 3) := by decide +kernel
theorem dX10_lot_18 : decode cX10_lot 18 = .ok (.dup, 1) := by decide +kernel
theorem dX10_lot_19 : decode cX10_lot 19 = .ok (.ldc_w 288, 3) := by decide +kernel
theorem dX10_lot_22 : decode cX10_lot 22 = .ok (.invokespecial 200, 3) := by decide +kernel
theorem dX10_lot_25 : decode cX10_lot 25 = .ok (.athrow, 1) := by decide +kernel
theorem dX10_lot_26 : decode cX10_lot 26 = .ok (.aload_n 0, 1) := by decide +kernel
theorem dX10_lot_27 : decode cX10_lot 27 = .ok (.getfield 26, 3) := by decide +kernel
theorem dX10_lot_30 : decode cX10_lot 30 = .ok (.getfield 290, 3) := by decide +kernel
theorem dX10_lot_33 : decode cX10_lot 33 = .ok (.iload_n 1, 1) := by decide +kernel
theorem dX10_lot_34 : decode cX10_lot 34 = .ok (.aaload, 1) := by decide +kernel
theorem dX10_lot_35 : decode cX10_lot 35 = .ok (.astore_n 3, 1) := by decide +kernel
theorem dX10_lot_36 : decode cX10_lot 36 = .ok (.iload_n 2, 1) := by decide +kernel
theorem dX10_lot_37 : decode cX10_lot 37 = .ok (.tableswitch 72 0 5 #[39, 45, 51, 56, 61, 66], 39) := by decide +kernel
theorem dX10_lot_76 : decode cX10_lot 76 = .ok (.aload_n 3, 1) := by decide +kernel
theorem dX10_lot_77 : decode cX10_lot 77 = .ok (.getfield 294, 3) := by decide +kernel
theorem dX10_lot_80 : decode cX10_lot 80 = .ok (.i2l, 1) := by decide +kernel
theorem dX10_lot_81 : decode cX10_lot 81 = .ok (.lreturn, 1) := by decide +kernel
theorem dX10_lot_82 : decode cX10_lot 82 = .ok (.aload_n 3, 1) := by decide +kernel
theorem dX10_lot_83 : decode cX10_lot 83 = .ok (.getfield 299, 3) := by decide +kernel
theorem dX10_lot_86 : decode cX10_lot 86 = .ok (.i2l, 1) := by decide +kernel
theorem dX10_lot_87 : decode cX10_lot 87 = .ok (.lreturn, 1) := by decide +kernel
theorem dX10_lot_88 : decode cX10_lot 88 = .ok (.aload_n 3, 1) := by decide +kernel
theorem dX10_lot_89 : decode cX10_lot 89 = .ok (.getfield 301, 3) := by decide +kernel
theorem dX10_lot_92 : decode cX10_lot 92 = .ok (.lreturn, 1) := by decide +kernel
theorem dX10_lot_93 : decode cX10_lot 93 = .ok (.aload_n 3, 1) := by decide +kernel
theorem dX10_lot_94 : decode cX10_lot 94 = .ok (.getfield 302, 3) := by decide +kernel
theorem dX10_lot_97 : decode cX10_lot 97 = .ok (.lreturn, 1) := by decide +kernel
theorem dX10_lot_98 : decode cX10_lot 98 = .ok (.aload_n 3, 1) := by decide +kernel
theorem dX10_lot_99 : decode cX10_lot 99 = .ok (.getfield 305, 3) := by decide +kernel
theorem dX10_lot_102 : decode cX10_lot 102 = .ok (.lreturn, 1) := by decide +kernel
theorem dX10_lot_103 : decode cX10_lot 103 = .ok (.aload_n 3, 1) := by decide +kernel
theorem dX10_lot_104 : decode cX10_lot 104 = .ok (.getfield 308, 3) := by decide +kernel
theorem dX10_lot_107 : decode cX10_lot 107 = .ok (.i2l, 1) := by decide +kernel
theorem dX10_lot_108 : decode cX10_lot 108 = .ok (.lreturn, 1) := by decide +kernel
theorem dX10_lot_109 : decode cX10_lot 109 = .ok (.new 71, 3) := by decide +kernel
theorem dX10_lot_112 : decode cX10_lot 112 = .ok (.dup, 1) := by decide +kernel
theorem dX10_lot_113 : decode cX10_lot 113 = .ok (.ldc_w 286, 3) := by decide +kernel
theorem dX10_lot_116 : decode cX10_lot 116 = .ok (.invokespecial 75, 3) := by decide +kernel
theorem dX10_lot_119 : decode cX10_lot 119 = .ok (.athrow, 1) := by decide +kernel
theorem dX10_request_0 : decode cX10_request 0 = .ok (.aload_n 0, 1) := by decide +kernel
theorem dX10_request_1 : decode cX10_request 1 = .ok (.iload_n 1, 1) := by decide +kernel
theorem dX10_request_2 : decode cX10_request 2 = .ok (.invokevirtual 122, 3) := by decide +kernel
theorem dX10_request_5 : decode cX10_request 5 = .ok (.aload_n 0, 1) := by decide +kernel
theorem dX10_request_6 : decode cX10_request 6 = .ok (.getfield 26, 3) := by decide +kernel
theorem dX10_request_9 : decode cX10_request 9 = .ok (.getfield 125, 3) := by decide +kernel
theorem dX10_request_12 : decode cX10_request 12 = .ok (.iload_n 1, 1) := by decide +kernel
theorem dX10_request_13 : decode cX10_request 13 = .ok (.aaload, 1) := by decide +kernel
theorem dX10_request_14 : decode cX10_request 14 = .ok (.astore_n 3, 1) := by decide +kernel
theorem dX10_request_15 : decode cX10_request 15 = .ok (.iload_n 2, 1) := by decide +kernel
theorem dX10_request_16 : decode cX10_request 16 = .ok (.tableswitch 62 0 3 #[32, 38, 51, 56], 32) := by decide +kernel
theorem dX10_request_48 : decode cX10_request 48 = .ok (.aload_n 3, 1) := by decide +kernel
theorem dX10_request_49 : decode cX10_request 49 = .ok (.getfield 309, 3) := by decide +kernel
theorem dX10_request_52 : decode cX10_request 52 = .ok (.i2l, 1) := by decide +kernel
theorem dX10_request_53 : decode cX10_request 53 = .ok (.lreturn, 1) := by decide +kernel
theorem dX10_request_54 : decode cX10_request 54 = .ok (.aload_n 3, 1) := by decide +kernel
theorem dX10_request_55 : decode cX10_request 55 = .ok (.getfield 310, 3) := by decide +kernel
theorem dX10_request_58 : decode cX10_request 58 = .ok (.ifCond .eq 7, 3) := by decide +kernel
theorem dX10_request_61 : decode cX10_request 61 = .ok (.lconst 1, 1) := by decide +kernel
theorem dX10_request_62 : decode cX10_request 62 = .ok (.goto 4, 3) := by decide +kernel
theorem dX10_request_65 : decode cX10_request 65 = .ok (.lconst 0, 1) := by decide +kernel
theorem dX10_request_66 : decode cX10_request 66 = .ok (.lreturn, 1) := by decide +kernel
theorem dX10_request_67 : decode cX10_request 67 = .ok (.aload_n 3, 1) := by decide +kernel
theorem dX10_request_68 : decode cX10_request 68 = .ok (.getfield 129, 3) := by decide +kernel
theorem dX10_request_71 : decode cX10_request 71 = .ok (.lreturn, 1) := by decide +kernel
theorem dX10_request_72 : decode cX10_request 72 = .ok (.aload_n 3, 1) := by decide +kernel
theorem dX10_request_73 : decode cX10_request 73 = .ok (.getfield 314, 3) := by decide +kernel
theorem dX10_request_76 : decode cX10_request 76 = .ok (.i2l, 1) := by decide +kernel
theorem dX10_request_77 : decode cX10_request 77 = .ok (.lreturn, 1) := by decide +kernel
theorem dX10_request_78 : decode cX10_request 78 = .ok (.new 71, 3) := by decide +kernel
theorem dX10_request_81 : decode cX10_request 81 = .ok (.dup, 1) := by decide +kernel
theorem dX10_request_82 : decode cX10_request 82 = .ok (.ldc_w 286, 3) := by decide +kernel
theorem dX10_request_85 : decode cX10_request 85 = .ok (.invokespecial 75, 3) := by decide +kernel
theorem dX10_request_88 : decode cX10_request 88 = .ok (.athrow, 1) := by decide +kernel
theorem dX10_unitsOf_0 : decode cX10_unitsOf 0 = .ok (.aload_n 0, 1) := by decide +kernel
theorem dX10_unitsOf_1 : decode cX10_unitsOf 1 = .ok (.iload_n 1, 1) := by decide +kernel
theorem dX10_unitsOf_2 : decode cX10_unitsOf 2 = .ok (.invokevirtual 315, 3) := by decide +kernel
theorem dX10_unitsOf_5 : decode cX10_unitsOf 5 = .ok (.aload_n 0, 1) := by decide +kernel
theorem dX10_unitsOf_6 : decode cX10_unitsOf 6 = .ok (.getfield 26, 3) := by decide +kernel
theorem dX10_unitsOf_9 : decode cX10_unitsOf 9 = .ok (.iload_n 1, 1) := by decide +kernel
theorem dX10_unitsOf_10 : decode cX10_unitsOf 10 = .ok (.invokevirtual 170, 3) := by decide +kernel
theorem dX10_unitsOf_13 : decode cX10_unitsOf 13 = .ok (.lreturn, 1) := by decide +kernel
theorem dX10_holding_0 : decode cX10_holding 0 = .ok (.aload_n 0, 1) := by decide +kernel
theorem dX10_holding_1 : decode cX10_holding 1 = .ok (.iload_n 1, 1) := by decide +kernel
theorem dX10_holding_2 : decode cX10_holding 2 = .ok (.invokevirtual 315, 3) := by decide +kernel
theorem dX10_holding_5 : decode cX10_holding 5 = .ok (.aload_n 0, 1) := by decide +kernel
theorem dX10_holding_6 : decode cX10_holding 6 = .ok (.iload_n 2, 1) := by decide +kernel
theorem dX10_holding_7 : decode cX10_holding 7 = .ok (.invokevirtual 259, 3) := by decide +kernel
theorem dX10_holding_10 : decode cX10_holding 10 = .ok (.pop, 1) := by decide +kernel
theorem dX10_holding_11 : decode cX10_holding 11 = .ok (.aload_n 0, 1) := by decide +kernel
theorem dX10_holding_12 : decode cX10_holding 12 = .ok (.getfield 26, 3) := by decide +kernel
theorem dX10_holding_15 : decode cX10_holding 15 = .ok (.iload_n 1, 1) := by decide +kernel
theorem dX10_holding_16 : decode cX10_holding 16 = .ok (.iload_n 2, 1) := by decide +kernel
theorem dX10_holding_17 : decode cX10_holding 17 = .ok (.invokevirtual 318, 3) := by decide +kernel
theorem dX10_holding_20 : decode cX10_holding 20 = .ok (.lreturn, 1) := by decide +kernel
theorem dX10_valueOf_0 : decode cX10_valueOf 0 = .ok (.aload_n 0, 1) := by decide +kernel
theorem dX10_valueOf_1 : decode cX10_valueOf 1 = .ok (.iload_n 1, 1) := by decide +kernel
theorem dX10_valueOf_2 : decode cX10_valueOf 2 = .ok (.invokevirtual 315, 3) := by decide +kernel
theorem dX10_valueOf_5 : decode cX10_valueOf 5 = .ok (.aload_n 0, 1) := by decide +kernel
theorem dX10_valueOf_6 : decode cX10_valueOf 6 = .ok (.getfield 36, 3) := by decide +kernel
theorem dX10_valueOf_9 : decode cX10_valueOf 9 = .ok (.aload_n 0, 1) := by decide +kernel
theorem dX10_valueOf_10 : decode cX10_valueOf 10 = .ok (.getfield 26, 3) := by decide +kernel
theorem dX10_valueOf_13 : decode cX10_valueOf 13 = .ok (.iload_n 1, 1) := by decide +kernel
theorem dX10_valueOf_14 : decode cX10_valueOf 14 = .ok (.iconst 0, 1) := by decide +kernel
theorem dX10_valueOf_15 : decode cX10_valueOf 15 = .ok (.invokevirtual 322, 3) := by decide +kernel
theorem dX10_valueOf_18 : decode cX10_valueOf 18 = .ok (.lreturn, 1) := by decide +kernel
theorem dX10_richest_0 : decode cX10_richest 0 = .ok (.aload_n 0, 1) := by decide +kernel
theorem dX10_richest_1 : decode cX10_richest 1 = .ok (.iload_n 1, 1) := by decide +kernel
theorem dX10_richest_2 : decode cX10_richest 2 = .ok (.invokevirtual 315, 3) := by decide +kernel
theorem dX10_richest_5 : decode cX10_richest 5 = .ok (.iconst 0, 1) := by decide +kernel
theorem dX10_richest_6 : decode cX10_richest 6 = .ok (.istore_n 2, 1) := by decide +kernel
theorem dX10_richest_7 : decode cX10_richest 7 = .ok (.iload_n 2, 1) := by decide +kernel
theorem dX10_richest_8 : decode cX10_richest 8 = .ok (.aload_n 0, 1) := by decide +kernel
theorem dX10_richest_9 : decode cX10_richest 9 = .ok (.getfield 26, 3) := by decide +kernel
theorem dX10_richest_12 : decode cX10_richest 12 = .ok (.getfield 212, 3) := by decide +kernel
theorem dX10_richest_15 : decode cX10_richest 15 = .ok (.if_icmp .ge 20, 3) := by decide +kernel
theorem dX10_richest_18 : decode cX10_richest 18 = .ok (.aload_n 0, 1) := by decide +kernel
theorem dX10_richest_19 : decode cX10_richest 19 = .ok (.iload_n 2, 1) := by decide +kernel
theorem dX10_richest_20 : decode cX10_richest 20 = .ok (.invokevirtual 326, 3) := by decide +kernel
theorem dX10_richest_23 : decode cX10_richest 23 = .ok (.iload_n 1, 1) := by decide +kernel
theorem dX10_richest_24 : decode cX10_richest 24 = .ok (.if_icmp .ne 5, 3) := by decide +kernel
theorem dX10_richest_27 : decode cX10_richest 27 = .ok (.iload_n 2, 1) := by decide +kernel
theorem dX10_richest_28 : decode cX10_richest 28 = .ok (.ireturn, 1) := by decide +kernel
theorem dX10_richest_29 : decode cX10_richest 29 = .ok (.iinc 2 1, 3) := by decide +kernel
theorem dX10_richest_32 : decode cX10_richest 32 = .ok (.goto (-25), 3) := by decide +kernel
theorem dX10_richest_35 : decode cX10_richest 35 = .ok (.iconst (-1), 1) := by decide +kernel
theorem dX10_richest_36 : decode cX10_richest 36 = .ok (.ireturn, 1) := by decide +kernel
theorem dX10_placeInRanking_0 : decode cX10_placeInRanking 0 = .ok (.aload_n 0, 1) := by decide +kernel
theorem dX10_placeInRanking_1 : decode cX10_placeInRanking 1 = .ok (.getfield 36, 3) := by decide +kernel
theorem dX10_placeInRanking_4 : decode cX10_placeInRanking 4 = .ok (.aload_n 0, 1) := by decide +kernel
theorem dX10_placeInRanking_5 : decode cX10_placeInRanking 5 = .ok (.getfield 26, 3) := by decide +kernel
theorem dX10_placeInRanking_8 : decode cX10_placeInRanking 8 = .ok (.iload_n 1, 1) := by decide +kernel
theorem dX10_placeInRanking_9 : decode cX10_placeInRanking 9 = .ok (.iconst 0, 1) := by decide +kernel
theorem dX10_placeInRanking_10 : decode cX10_placeInRanking 10 = .ok (.invokevirtual 322, 3) := by decide +kernel
theorem dX10_placeInRanking_13 : decode cX10_placeInRanking 13 = .ok (.lstore_n 2, 1) := by decide +kernel
theorem dX10_placeInRanking_14 : decode cX10_placeInRanking 14 = .ok (.iconst 0, 1) := by decide +kernel
theorem dX10_placeInRanking_15 : decode cX10_placeInRanking 15 = .ok (.istore 4, 2) := by decide +kernel
theorem dX10_placeInRanking_17 : decode cX10_placeInRanking 17 = .ok (.iconst 0, 1) := by decide +kernel
theorem dX10_placeInRanking_18 : decode cX10_placeInRanking 18 = .ok (.istore 5, 2) := by decide +kernel
theorem dX10_placeInRanking_20 : decode cX10_placeInRanking 20 = .ok (.iload 5, 2) := by decide +kernel
theorem dX10_placeInRanking_22 : decode cX10_placeInRanking 22 = .ok (.aload_n 0, 1) := by decide +kernel
theorem dX10_placeInRanking_23 : decode cX10_placeInRanking 23 = .ok (.getfield 26, 3) := by decide +kernel
theorem dX10_placeInRanking_26 : decode cX10_placeInRanking 26 = .ok (.getfield 212, 3) := by decide +kernel
theorem dX10_placeInRanking_29 : decode cX10_placeInRanking 29 = .ok (.if_icmp .ge 48, 3) := by decide +kernel
theorem dX10_placeInRanking_32 : decode cX10_placeInRanking 32 = .ok (.aload_n 0, 1) := by decide +kernel
theorem dX10_placeInRanking_33 : decode cX10_placeInRanking 33 = .ok (.getfield 36, 3) := by decide +kernel
theorem dX10_placeInRanking_36 : decode cX10_placeInRanking 36 = .ok (.aload_n 0, 1) := by decide +kernel
theorem dX10_placeInRanking_37 : decode cX10_placeInRanking 37 = .ok (.getfield 26, 3) := by decide +kernel
theorem dX10_placeInRanking_40 : decode cX10_placeInRanking 40 = .ok (.iload 5, 2) := by decide +kernel
theorem dX10_placeInRanking_42 : decode cX10_placeInRanking 42 = .ok (.iconst 0, 1) := by decide +kernel
theorem dX10_placeInRanking_43 : decode cX10_placeInRanking 43 = .ok (.invokevirtual 322, 3) := by decide +kernel
theorem dX10_placeInRanking_46 : decode cX10_placeInRanking 46 = .ok (.lstore 6, 2) := by decide +kernel
theorem dX10_placeInRanking_48 : decode cX10_placeInRanking 48 = .ok (.lload 6, 2) := by decide +kernel
theorem dX10_placeInRanking_50 : decode cX10_placeInRanking 50 = .ok (.lload_n 2, 1) := by decide +kernel
theorem dX10_placeInRanking_51 : decode cX10_placeInRanking 51 = .ok (.lcmp, 1) := by decide +kernel
theorem dX10_placeInRanking_52 : decode cX10_placeInRanking 52 = .ok (.ifCond .gt 16, 3) := by decide +kernel
theorem dX10_placeInRanking_55 : decode cX10_placeInRanking 55 = .ok (.lload 6, 2) := by decide +kernel
theorem dX10_placeInRanking_57 : decode cX10_placeInRanking 57 = .ok (.lload_n 2, 1) := by decide +kernel
theorem dX10_placeInRanking_58 : decode cX10_placeInRanking 58 = .ok (.lcmp, 1) := by decide +kernel
theorem dX10_placeInRanking_59 : decode cX10_placeInRanking 59 = .ok (.ifCond .ne 12, 3) := by decide +kernel
theorem dX10_placeInRanking_62 : decode cX10_placeInRanking 62 = .ok (.iload 5, 2) := by decide +kernel
theorem dX10_placeInRanking_64 : decode cX10_placeInRanking 64 = .ok (.iload_n 1, 1) := by decide +kernel
theorem dX10_placeInRanking_65 : decode cX10_placeInRanking 65 = .ok (.if_icmp .ge 6, 3) := by decide +kernel
theorem dX10_placeInRanking_68 : decode cX10_placeInRanking 68 = .ok (.iinc 4 1, 3) := by decide +kernel
theorem dX10_placeInRanking_71 : decode cX10_placeInRanking 71 = .ok (.iinc 5 1, 3) := by decide +kernel
theorem dX10_placeInRanking_74 : decode cX10_placeInRanking 74 = .ok (.goto (-54), 3) := by decide +kernel
theorem dX10_placeInRanking_77 : decode cX10_placeInRanking 77 = .ok (.iload 4, 2) := by decide +kernel
theorem dX10_placeInRanking_79 : decode cX10_placeInRanking 79 = .ok (.ireturn, 1) := by decide +kernel
theorem dX10_share_0 : decode cX10_share 0 = .ok (.aload_n 0, 1) := by decide +kernel
theorem dX10_share_1 : decode cX10_share 1 = .ok (.iload_n 1, 1) := by decide +kernel
theorem dX10_share_2 : decode cX10_share 2 = .ok (.invokevirtual 315, 3) := by decide +kernel
theorem dX10_share_5 : decode cX10_share 5 = .ok (.lconst 0, 1) := by decide +kernel
theorem dX10_share_6 : decode cX10_share 6 = .ok (.lstore_n 2, 1) := by decide +kernel
theorem dX10_share_7 : decode cX10_share 7 = .ok (.iconst 0, 1) := by decide +kernel
theorem dX10_share_8 : decode cX10_share 8 = .ok (.istore 4, 2) := by decide +kernel
theorem dX10_share_10 : decode cX10_share 10 = .ok (.iload 4, 2) := by decide +kernel
theorem dX10_share_12 : decode cX10_share 12 = .ok (.aload_n 0, 1) := by decide +kernel
theorem dX10_share_13 : decode cX10_share 13 = .ok (.getfield 26, 3) := by decide +kernel
theorem dX10_share_16 : decode cX10_share 16 = .ok (.getfield 212, 3) := by decide +kernel
theorem dX10_share_19 : decode cX10_share 19 = .ok (.if_icmp .ge 26, 3) := by decide +kernel
theorem dX10_share_22 : decode cX10_share 22 = .ok (.lload_n 2, 1) := by decide +kernel
theorem dX10_share_23 : decode cX10_share 23 = .ok (.aload_n 0, 1) := by decide +kernel
theorem dX10_share_24 : decode cX10_share 24 = .ok (.getfield 36, 3) := by decide +kernel
theorem dX10_share_27 : decode cX10_share 27 = .ok (.aload_n 0, 1) := by decide +kernel
theorem dX10_share_28 : decode cX10_share 28 = .ok (.getfield 26, 3) := by decide +kernel
theorem dX10_share_31 : decode cX10_share 31 = .ok (.iload 4, 2) := by decide +kernel
theorem dX10_share_33 : decode cX10_share 33 = .ok (.iconst 0, 1) := by decide +kernel
theorem dX10_share_34 : decode cX10_share 34 = .ok (.invokevirtual 322, 3) := by decide +kernel
theorem dX10_share_37 : decode cX10_share 37 = .ok (.ladd, 1) := by decide +kernel
theorem dX10_share_38 : decode cX10_share 38 = .ok (.lstore_n 2, 1) := by decide +kernel
theorem dX10_share_39 : decode cX10_share 39 = .ok (.iinc 4 1, 3) := by decide +kernel
theorem dX10_share_42 : decode cX10_share 42 = .ok (.goto (-32), 3) := by decide +kernel
theorem dX10_share_45 : decode cX10_share 45 = .ok (.lload_n 2, 1) := by decide +kernel
theorem dX10_share_46 : decode cX10_share 46 = .ok (.lconst 0, 1) := by decide +kernel
theorem dX10_share_47 : decode cX10_share 47 = .ok (.lcmp, 1) := by decide +kernel
theorem dX10_share_48 : decode cX10_share 48 = .ok (.ifCond .ne 14, 3) := by decide +kernel
theorem dX10_share_51 : decode cX10_share 51 = .ok (.new 329, 3) := by decide +kernel
theorem dX10_share_54 : decode cX10_share 54 = .ok (.dup, 1) := by decide +kernel
theorem dX10_share_55 : decode cX10_share 55 = .ok (.ldc_w 331, 3) := by decide +kernel
theorem dX10_share_58 : decode cX10_share 58 = .ok (.invokespecial 333, 3) := by decide +kernel
theorem dX10_share_61 : decode cX10_share 61 = .ok (.athrow, 1) := by decide +kernel
theorem dX10_share_62 : decode cX10_share 62 = .ok (.aload_n 0, 1) := by decide +kernel
theorem dX10_share_63 : decode cX10_share 63 = .ok (.getfield 36, 3) := by decide +kernel
theorem dX10_share_66 : decode cX10_share 66 = .ok (.aload_n 0, 1) := by decide +kernel
theorem dX10_share_67 : decode cX10_share 67 = .ok (.getfield 26, 3) := by decide +kernel
theorem dX10_share_70 : decode cX10_share 70 = .ok (.iload_n 1, 1) := by decide +kernel
theorem dX10_share_71 : decode cX10_share 71 = .ok (.iconst 0, 1) := by decide +kernel
theorem dX10_share_72 : decode cX10_share 72 = .ok (.invokevirtual 322, 3) := by decide +kernel
theorem dX10_share_75 : decode cX10_share 75 = .ok (.l2d, 1) := by decide +kernel
theorem dX10_share_76 : decode cX10_share 76 = .ok (.lload_n 2, 1) := by decide +kernel
theorem dX10_share_77 : decode cX10_share 77 = .ok (.l2d, 1) := by decide +kernel
theorem dX10_share_78 : decode cX10_share 78 = .ok (.ddiv, 1) := by decide +kernel
theorem dX10_share_79 : decode cX10_share 79 = .ok (.dreturn, 1) := by decide +kernel
theorem dX10_requestedValue_0 : decode cX10_requestedValue 0 = .ok (.aload_n 0, 1) := by decide +kernel
theorem dX10_requestedValue_1 : decode cX10_requestedValue 1 = .ok (.getfield 36, 3) := by decide +kernel
theorem dX10_requestedValue_4 : decode cX10_requestedValue 4 = .ok (.aload_n 0, 1) := by decide +kernel
theorem dX10_requestedValue_5 : decode cX10_requestedValue 5 = .ok (.getfield 26, 3) := by decide +kernel
theorem dX10_requestedValue_8 : decode cX10_requestedValue 8 = .ok (.invokevirtual 334, 3) := by decide +kernel
theorem dX10_requestedValue_11 : decode cX10_requestedValue 11 = .ok (.lreturn, 1) := by decide +kernel
theorem dX10_gateLimit_0 : decode cX10_gateLimit 0 = .ok (.aload_n 0, 1) := by decide +kernel
theorem dX10_gateLimit_1 : decode cX10_gateLimit 1 = .ok (.getfield 26, 3) := by decide +kernel
theorem dX10_gateLimit_4 : decode cX10_gateLimit 4 = .ok (.invokevirtual 337, 3) := by decide +kernel
theorem dX10_gateLimit_7 : decode cX10_gateLimit 7 = .ok (.lreturn, 1) := by decide +kernel
theorem dX10_wouldRedeem_0 : decode cX10_wouldRedeem 0 = .ok (.aload_n 0, 1) := by decide +kernel
theorem dX10_wouldRedeem_1 : decode cX10_wouldRedeem 1 = .ok (.iload_n 1, 1) := by decide +kernel
theorem dX10_wouldRedeem_2 : decode cX10_wouldRedeem 2 = .ok (.invokevirtual 122, 3) := by decide +kernel
theorem dX10_wouldRedeem_5 : decode cX10_wouldRedeem 5 = .ok (.aload_n 0, 1) := by decide +kernel
theorem dX10_wouldRedeem_6 : decode cX10_wouldRedeem 6 = .ok (.getfield 26, 3) := by decide +kernel
theorem dX10_wouldRedeem_9 : decode cX10_wouldRedeem 9 = .ok (.getfield 125, 3) := by decide +kernel
theorem dX10_wouldRedeem_12 : decode cX10_wouldRedeem 12 = .ok (.iload_n 1, 1) := by decide +kernel
theorem dX10_wouldRedeem_13 : decode cX10_wouldRedeem 13 = .ok (.aaload, 1) := by decide +kernel
theorem dX10_wouldRedeem_14 : decode cX10_wouldRedeem 14 = .ok (.getfield 310, 3) := by decide +kernel
theorem dX10_wouldRedeem_17 : decode cX10_wouldRedeem 17 = .ok (.ifCond .ne 5, 3) := by decide +kernel
theorem dX10_wouldRedeem_20 : decode cX10_wouldRedeem 20 = .ok (.lconst 0, 1) := by decide +kernel
theorem dX10_wouldRedeem_21 : decode cX10_wouldRedeem 21 = .ok (.lreturn, 1) := by decide +kernel
theorem dX10_wouldRedeem_22 : decode cX10_wouldRedeem 22 = .ok (.aload_n 0, 1) := by decide +kernel
theorem dX10_wouldRedeem_23 : decode cX10_wouldRedeem 23 = .ok (.getfield 30, 3) := by decide +kernel
theorem dX10_wouldRedeem_26 : decode cX10_wouldRedeem 26 = .ok (.aload_n 0, 1) := by decide +kernel
theorem dX10_wouldRedeem_27 : decode cX10_wouldRedeem 27 = .ok (.getfield 26, 3) := by decide +kernel
theorem dX10_wouldRedeem_30 : decode cX10_wouldRedeem 30 = .ok (.invokevirtual 101, 3) := by decide +kernel
theorem dX10_wouldRedeem_33 : decode cX10_wouldRedeem 33 = .ok (.aload_n 0, 1) := by decide +kernel
theorem dX10_wouldRedeem_34 : decode cX10_wouldRedeem 34 = .ok (.getfield 36, 3) := by decide +kernel
theorem dX10_wouldRedeem_37 : decode cX10_wouldRedeem 37 = .ok (.aload_n 0, 1) := by decide +kernel
theorem dX10_wouldRedeem_38 : decode cX10_wouldRedeem 38 = .ok (.getfield 30, 3) := by decide +kernel
theorem dX10_wouldRedeem_41 : decode cX10_wouldRedeem 41 = .ok (.aload_n 0, 1) := by decide +kernel
theorem dX10_wouldRedeem_42 : decode cX10_wouldRedeem 42 = .ok (.getfield 36, 3) := by decide +kernel
theorem dX10_wouldRedeem_45 : decode cX10_wouldRedeem 45 = .ok (.aload_n 0, 1) := by decide +kernel
theorem dX10_wouldRedeem_46 : decode cX10_wouldRedeem 46 = .ok (.getfield 30, 3) := by decide +kernel
theorem dX10_wouldRedeem_49 : decode cX10_wouldRedeem 49 = .ok (.invokevirtual 334, 3) := by decide +kernel
theorem dX10_wouldRedeem_52 : decode cX10_wouldRedeem 52 = .ok (.invokevirtual 340, 3) := by decide +kernel
theorem dX10_wouldRedeem_55 : decode cX10_wouldRedeem 55 = .ok (.aload_n 0, 1) := by decide +kernel
theorem dX10_wouldRedeem_56 : decode cX10_wouldRedeem 56 = .ok (.getfield 30, 3) := by decide +kernel
theorem dX10_wouldRedeem_59 : decode cX10_wouldRedeem 59 = .ok (.getfield 125, 3) := by decide +kernel
theorem dX10_wouldRedeem_62 : decode cX10_wouldRedeem 62 = .ok (.iload_n 1, 1) := by decide +kernel
theorem dX10_wouldRedeem_63 : decode cX10_wouldRedeem 63 = .ok (.aaload, 1) := by decide +kernel
theorem dX10_wouldRedeem_64 : decode cX10_wouldRedeem 64 = .ok (.getfield 344, 3) := by decide +kernel
theorem dX10_wouldRedeem_67 : decode cX10_wouldRedeem 67 = .ok (.lreturn, 1) := by decide +kernel
theorem dX10_dealsUntilDone_0 : decode cX10_dealsUntilDone 0 = .ok (.aload_n 0, 1) := by decide +kernel
theorem dX10_dealsUntilDone_1 : decode cX10_dealsUntilDone 1 = .ok (.iload_n 1, 1) := by decide +kernel
theorem dX10_dealsUntilDone_2 : decode cX10_dealsUntilDone 2 = .ok (.invokevirtual 122, 3) := by decide +kernel
theorem dX10_dealsUntilDone_5 : decode cX10_dealsUntilDone 5 = .ok (.aload_n 0, 1) := by decide +kernel
theorem dX10_dealsUntilDone_6 : decode cX10_dealsUntilDone 6 = .ok (.getfield 30, 3) := by decide +kernel
theorem dX10_dealsUntilDone_9 : decode cX10_dealsUntilDone 9 = .ok (.aload_n 0, 1) := by decide +kernel
theorem dX10_dealsUntilDone_10 : decode cX10_dealsUntilDone 10 = .ok (.getfield 26, 3) := by decide +kernel
theorem dX10_dealsUntilDone_13 : decode cX10_dealsUntilDone 13 = .ok (.invokevirtual 101, 3) := by decide +kernel
theorem dX10_dealsUntilDone_16 : decode cX10_dealsUntilDone 16 = .ok (.iload_n 1, 1) := by decide +kernel
theorem dX10_dealsUntilDone_17 : decode cX10_dealsUntilDone 17 = .ok (.istore_n 2, 1) := by decide +kernel
theorem dX10_dealsUntilDone_18 : decode cX10_dealsUntilDone 18 = .ok (.iconst 1, 1) := by decide +kernel
theorem dX10_dealsUntilDone_19 : decode cX10_dealsUntilDone 19 = .ok (.istore_n 3, 1) := by decide +kernel
theorem dX10_dealsUntilDone_20 : decode cX10_dealsUntilDone 20 = .ok (.iload_n 3, 1) := by decide +kernel
theorem dX10_dealsUntilDone_21 : decode cX10_dealsUntilDone 21 = .ok (.bipush 100, 2) := by decide +kernel
theorem dX10_dealsUntilDone_23 : decode cX10_dealsUntilDone 23 = .ok (.if_icmp .gt 74, 3) := by decide +kernel
theorem dX10_dealsUntilDone_26 : decode cX10_dealsUntilDone 26 = .ok (.aload_n 0, 1) := by decide +kernel
theorem dX10_dealsUntilDone_27 : decode cX10_dealsUntilDone 27 = .ok (.getfield 36, 3) := by decide +kernel
theorem dX10_dealsUntilDone_30 : decode cX10_dealsUntilDone 30 = .ok (.aload_n 0, 1) := by decide +kernel
theorem dX10_dealsUntilDone_31 : decode cX10_dealsUntilDone 31 = .ok (.getfield 30, 3) := by decide +kernel
theorem dX10_dealsUntilDone_34 : decode cX10_dealsUntilDone 34 = .ok (.aload_n 0, 1) := by decide +kernel
theorem dX10_dealsUntilDone_35 : decode cX10_dealsUntilDone 35 = .ok (.getfield 36, 3) := by decide +kernel
theorem dX10_dealsUntilDone_38 : decode cX10_dealsUntilDone 38 = .ok (.aload_n 0, 1) := by decide +kernel
theorem dX10_dealsUntilDone_39 : decode cX10_dealsUntilDone 39 = .ok (.getfield 30, 3) := by decide +kernel
theorem dX10_dealsUntilDone_42 : decode cX10_dealsUntilDone 42 = .ok (.invokevirtual 334, 3) := by decide +kernel
theorem dX10_dealsUntilDone_45 : decode cX10_dealsUntilDone 45 = .ok (.invokevirtual 340, 3) := by decide +kernel
theorem dX10_dealsUntilDone_48 : decode cX10_dealsUntilDone 48 = .ok (.aload_n 0, 1) := by decide +kernel
theorem dX10_dealsUntilDone_49 : decode cX10_dealsUntilDone 49 = .ok (.getfield 36, 3) := by decide +kernel
theorem dX10_dealsUntilDone_52 : decode cX10_dealsUntilDone 52 = .ok (.aload_n 0, 1) := by decide +kernel
theorem dX10_dealsUntilDone_53 : decode cX10_dealsUntilDone 53 = .ok (.getfield 30, 3) := by decide +kernel
theorem dX10_dealsUntilDone_56 : decode cX10_dealsUntilDone 56 = .ok (.invokevirtual 347, 3) := by decide +kernel
theorem dX10_dealsUntilDone_59 : decode cX10_dealsUntilDone 59 = .ok (.aload_n 0, 1) := by decide +kernel
theorem dX10_dealsUntilDone_60 : decode cX10_dealsUntilDone 60 = .ok (.getfield 30, 3) := by decide +kernel
theorem dX10_dealsUntilDone_63 : decode cX10_dealsUntilDone 63 = .ok (.iload_n 2, 1) := by decide +kernel
theorem dX10_dealsUntilDone_64 : decode cX10_dealsUntilDone 64 = .ok (.invokevirtual 350, 3) := by decide +kernel
theorem dX10_dealsUntilDone_67 : decode cX10_dealsUntilDone 67 = .ok (.ifCond .eq 5, 3) := by decide +kernel
theorem dX10_dealsUntilDone_70 : decode cX10_dealsUntilDone 70 = .ok (.iload_n 3, 1) := by decide +kernel
theorem dX10_dealsUntilDone_71 : decode cX10_dealsUntilDone 71 = .ok (.ireturn, 1) := by decide +kernel
theorem dX10_dealsUntilDone_72 : decode cX10_dealsUntilDone 72 = .ok (.iload_n 2, 1) := by decide +kernel
theorem dX10_dealsUntilDone_73 : decode cX10_dealsUntilDone 73 = .ok (.aload_n 0, 1) := by decide +kernel
theorem dX10_dealsUntilDone_74 : decode cX10_dealsUntilDone 74 = .ok (.getfield 30, 3) := by decide +kernel
theorem dX10_dealsUntilDone_77 : decode cX10_dealsUntilDone 77 = .ok (.iload_n 2, 1) := by decide +kernel
theorem dX10_dealsUntilDone_78 : decode cX10_dealsUntilDone 78 = .ok (.invokevirtual 353, 3) := by decide +kernel
theorem dX10_dealsUntilDone_81 : decode cX10_dealsUntilDone 81 = .ok (.isub, 1) := by decide +kernel
theorem dX10_dealsUntilDone_82 : decode cX10_dealsUntilDone 82 = .ok (.istore_n 2, 1) := by decide +kernel
theorem dX10_dealsUntilDone_83 : decode cX10_dealsUntilDone 83 = .ok (.aload_n 0, 1) := by decide +kernel
theorem dX10_dealsUntilDone_84 : decode cX10_dealsUntilDone 84 = .ok (.getfield 30, 3) := by decide +kernel
theorem dX10_dealsUntilDone_87 : decode cX10_dealsUntilDone 87 = .ok (.invokevirtual 356, 3) := by decide +kernel
theorem dX10_dealsUntilDone_90 : decode cX10_dealsUntilDone 90 = .ok (.pop, 1) := by decide +kernel
theorem dX10_dealsUntilDone_91 : decode cX10_dealsUntilDone 91 = .ok (.iinc 3 1, 3) := by decide +kernel
theorem dX10_dealsUntilDone_94 : decode cX10_dealsUntilDone 94 = .ok (.goto (-74), 3) := by decide +kernel
theorem dX10_dealsUntilDone_97 : decode cX10_dealsUntilDone 97 = .ok (.iconst (-1), 1) := by decide +kernel
theorem dX10_dealsUntilDone_98 : decode cX10_dealsUntilDone 98 = .ok (.ireturn, 1) := by decide +kernel
theorem dX10_feesIf_0 : decode cX10_feesIf 0 = .ok (.iload_n 1, 1) := by decide +kernel
theorem dX10_feesIf_1 : decode cX10_feesIf 1 = .ok (.sipush (-9000), 3) := by decide +kernel
theorem dX10_feesIf_4 : decode cX10_feesIf 4 = .ok (.if_icmp .lt 10, 3) := by decide +kernel
theorem dX10_feesIf_7 : decode cX10_feesIf 7 = .ok (.iload_n 1, 1) := by decide +kernel
theorem dX10_feesIf_8 : decode cX10_feesIf 8 = .ok (.sipush 9999, 3) := by decide +kernel
theorem dX10_feesIf_11 : decode cX10_feesIf 11 = .ok (.if_icmp .le 14, 3) := by decide +kernel
theorem dX10_feesIf_14 : decode cX10_feesIf 14 = .ok (.new 71, 3) := by decide +kernel
theorem dX10_feesIf_17 : decode cX10_feesIf 17 = .ok (.dup, 1) := by decide +kernel
theorem dX10_feesIf_18 : decode cX10_feesIf 18 = .ok (.ldc_w 360, 3) := by decide +kernel
theorem dX10_feesIf_21 : decode cX10_feesIf 21 = .ok (.invokespecial 75, 3) := by decide +kernel
theorem dX10_feesIf_24 : decode cX10_feesIf 24 = .ok (.athrow, 1) := by decide +kernel
theorem dX10_feesIf_25 : decode cX10_feesIf 25 = .ok (.aload_n 0, 1) := by decide +kernel
theorem dX10_feesIf_26 : decode cX10_feesIf 26 = .ok (.getfield 30, 3) := by decide +kernel
theorem dX10_feesIf_29 : decode cX10_feesIf 29 = .ok (.aload_n 0, 1) := by decide +kernel
theorem dX10_feesIf_30 : decode cX10_feesIf 30 = .ok (.getfield 26, 3) := by decide +kernel
theorem dX10_feesIf_33 : decode cX10_feesIf 33 = .ok (.invokevirtual 101, 3) := by decide +kernel
theorem dX10_feesIf_36 : decode cX10_feesIf 36 = .ok (.aload_n 0, 1) := by decide +kernel
theorem dX10_feesIf_37 : decode cX10_feesIf 37 = .ok (.getfield 30, 3) := by decide +kernel
theorem dX10_feesIf_40 : decode cX10_feesIf 40 = .ok (.iload_n 1, 1) := by decide +kernel
theorem dX10_feesIf_41 : decode cX10_feesIf 41 = .ok (.invokestatic 144, 3) := by decide +kernel
theorem dX10_feesIf_44 : decode cX10_feesIf 44 = .ok (.pop2, 1) := by decide +kernel
theorem dX10_feesIf_45 : decode cX10_feesIf 45 = .ok (.lconst 0, 1) := by decide +kernel
theorem dX10_feesIf_46 : decode cX10_feesIf 46 = .ok (.lstore_n 2, 1) := by decide +kernel
theorem dX10_feesIf_47 : decode cX10_feesIf 47 = .ok (.iconst 0, 1) := by decide +kernel
theorem dX10_feesIf_48 : decode cX10_feesIf 48 = .ok (.istore 4, 2) := by decide +kernel
theorem dX10_feesIf_50 : decode cX10_feesIf 50 = .ok (.iload 4, 2) := by decide +kernel
theorem dX10_feesIf_52 : decode cX10_feesIf 52 = .ok (.aload_n 0, 1) := by decide +kernel
theorem dX10_feesIf_53 : decode cX10_feesIf 53 = .ok (.getfield 30, 3) := by decide +kernel
theorem dX10_feesIf_56 : decode cX10_feesIf 56 = .ok (.getfield 227, 3) := by decide +kernel
theorem dX10_feesIf_59 : decode cX10_feesIf 59 = .ok (.if_icmp .ge 32, 3) := by decide +kernel
theorem dX10_feesIf_62 : decode cX10_feesIf 62 = .ok (.lload_n 2, 1) := by decide +kernel
theorem dX10_feesIf_63 : decode cX10_feesIf 63 = .ok (.aload_n 0, 1) := by decide +kernel
theorem dX10_feesIf_64 : decode cX10_feesIf 64 = .ok (.getfield 30, 3) := by decide +kernel
theorem dX10_feesIf_67 : decode cX10_feesIf 67 = .ok (.getfield 250, 3) := by decide +kernel
theorem dX10_feesIf_70 : decode cX10_feesIf 70 = .ok (.iload 4, 2) := by decide +kernel
theorem dX10_feesIf_72 : decode cX10_feesIf 72 = .ok (.aaload, 1) := by decide +kernel
theorem dX10_feesIf_73 : decode cX10_feesIf 73 = .ok (.aload_n 0, 1) := by decide +kernel
theorem dX10_feesIf_74 : decode cX10_feesIf 74 = .ok (.getfield 30, 3) := by decide +kernel
theorem dX10_feesIf_77 : decode cX10_feesIf 77 = .ok (.getfield 221, 3) := by decide +kernel
theorem dX10_feesIf_80 : decode cX10_feesIf 80 = .ok (.invokevirtual 271, 3) := by decide +kernel
theorem dX10_feesIf_83 : decode cX10_feesIf 83 = .ok (.ladd, 1) := by decide +kernel
theorem dX10_feesIf_84 : decode cX10_feesIf 84 = .ok (.lstore_n 2, 1) := by decide +kernel
theorem dX10_feesIf_85 : decode cX10_feesIf 85 = .ok (.iinc 4 1, 3) := by decide +kernel
theorem dX10_feesIf_88 : decode cX10_feesIf 88 = .ok (.goto (-38), 3) := by decide +kernel
theorem dX10_feesIf_91 : decode cX10_feesIf 91 = .ok (.lload_n 2, 1) := by decide +kernel
theorem dX10_feesIf_92 : decode cX10_feesIf 92 = .ok (.lreturn, 1) := by decide +kernel
theorem dX10_breakEven_0 : decode cX10_breakEven 0 = .ok (.aload_n 0, 1) := by decide +kernel
theorem dX10_breakEven_1 : decode cX10_breakEven 1 = .ok (.getfield 26, 3) := by decide +kernel
theorem dX10_breakEven_4 : decode cX10_breakEven 4 = .ok (.getfield 250, 3) := by decide +kernel
theorem dX10_breakEven_7 : decode cX10_breakEven 7 = .ok (.aload_n 0, 1) := by decide +kernel
theorem dX10_breakEven_8 : decode cX10_breakEven 8 = .ok (.iload_n 1, 1) := by decide +kernel
theorem dX10_breakEven_9 : decode cX10_breakEven 9 = .ok (.invokevirtual 259, 3) := by decide +kernel
theorem dX10_breakEven_12 : decode cX10_breakEven 12 = .ok (.aaload, 1) := by decide +kernel
theorem dX10_breakEven_13 : decode cX10_breakEven 13 = .ok (.astore_n 2, 1) := by decide +kernel
theorem dX10_breakEven_14 : decode cX10_breakEven 14 = .ok (.aload_n 2, 1) := by decide +kernel
theorem dX10_breakEven_15 : decode cX10_breakEven 15 = .ok (.aload_n 2, 1) := by decide +kernel
theorem dX10_breakEven_16 : decode cX10_breakEven 16 = .ok (.sipush 9999, 3) := by decide +kernel
theorem dX10_breakEven_19 : decode cX10_breakEven 19 = .ok (.invokevirtual 362, 3) := by decide +kernel
theorem dX10_breakEven_22 : decode cX10_breakEven 22 = .ok (.invokevirtual 365, 3) := by decide +kernel
theorem dX10_breakEven_25 : decode cX10_breakEven 25 = .ok (.aload_n 2, 1) := by decide +kernel
theorem dX10_breakEven_26 : decode cX10_breakEven 26 = .ok (.getfield 268, 3) := by decide +kernel
theorem dX10_breakEven_29 : decode cX10_breakEven 29 = .ok (.lcmp, 1) := by decide +kernel
theorem dX10_breakEven_30 : decode cX10_breakEven 30 = .ok (.ifCond .ge 14, 3) := by decide +kernel
theorem dX10_breakEven_33 : decode cX10_breakEven 33 = .ok (.new 369, 3) := by decide +kernel
theorem dX10_breakEven_36 : decode cX10_breakEven 36 = .ok (.dup, 1) := by decide +kernel
theorem dX10_breakEven_37 : decode cX10_breakEven 37 = .ok (.ldc_w 371, 3) := by decide +kernel
theorem dX10_breakEven_40 : decode cX10_breakEven 40 = .ok (.invokespecial 373, 3) := by decide +kernel
theorem dX10_breakEven_43 : decode cX10_breakEven 43 = .ok (.athrow, 1) := by decide +kernel
theorem dX10_breakEven_44 : decode cX10_breakEven 44 = .ok (.sipush (-9000), 3) := by decide +kernel
theorem dX10_breakEven_47 : decode cX10_breakEven 47 = .ok (.istore_n 3, 1) := by decide +kernel
theorem dX10_breakEven_48 : decode cX10_breakEven 48 = .ok (.sipush 9999, 3) := by decide +kernel
theorem dX10_breakEven_51 : decode cX10_breakEven 51 = .ok (.istore 4, 2) := by decide +kernel
theorem dX10_breakEven_53 : decode cX10_breakEven 53 = .ok (.iconst 0, 1) := by decide +kernel
theorem dX10_breakEven_54 : decode cX10_breakEven 54 = .ok (.istore 5, 2) := by decide +kernel
theorem dX10_breakEven_56 : decode cX10_breakEven 56 = .ok (.iload 5, 2) := by decide +kernel
theorem dX10_breakEven_58 : decode cX10_breakEven 58 = .ok (.bipush 32, 2) := by decide +kernel
theorem dX10_breakEven_60 : decode cX10_breakEven 60 = .ok (.if_icmp .ge 55, 3) := by decide +kernel
theorem dX10_breakEven_63 : decode cX10_breakEven 63 = .ok (.iload_n 3, 1) := by decide +kernel
theorem dX10_breakEven_64 : decode cX10_breakEven 64 = .ok (.iload 4, 2) := by decide +kernel
theorem dX10_breakEven_66 : decode cX10_breakEven 66 = .ok (.if_icmp .ge 49, 3) := by decide +kernel
theorem dX10_breakEven_69 : decode cX10_breakEven 69 = .ok (.iload_n 3, 1) := by decide +kernel
theorem dX10_breakEven_70 : decode cX10_breakEven 70 = .ok (.iload 4, 2) := by decide +kernel
theorem dX10_breakEven_72 : decode cX10_breakEven 72 = .ok (.iadd, 1) := by decide +kernel
theorem dX10_breakEven_73 : decode cX10_breakEven 73 = .ok (.iconst 2, 1) := by decide +kernel
theorem dX10_breakEven_74 : decode cX10_breakEven 74 = .ok (.invokestatic 374, 3) := by decide +kernel
theorem dX10_breakEven_77 : decode cX10_breakEven 77 = .ok (.istore 6, 2) := by decide +kernel
theorem dX10_breakEven_79 : decode cX10_breakEven 79 = .ok (.aload_n 2, 1) := by decide +kernel
theorem dX10_breakEven_80 : decode cX10_breakEven 80 = .ok (.aload_n 2, 1) := by decide +kernel
theorem dX10_breakEven_81 : decode cX10_breakEven 81 = .ok (.iload 6, 2) := by decide +kernel
theorem dX10_breakEven_83 : decode cX10_breakEven 83 = .ok (.invokevirtual 362, 3) := by decide +kernel
theorem dX10_breakEven_86 : decode cX10_breakEven 86 = .ok (.invokevirtual 365, 3) := by decide +kernel
theorem dX10_breakEven_89 : decode cX10_breakEven 89 = .ok (.aload_n 2, 1) := by decide +kernel
theorem dX10_breakEven_90 : decode cX10_breakEven 90 = .ok (.getfield 268, 3) := by decide +kernel
theorem dX10_breakEven_93 : decode cX10_breakEven 93 = .ok (.lcmp, 1) := by decide +kernel
theorem dX10_breakEven_94 : decode cX10_breakEven 94 = .ok (.ifCond .ge 11, 3) := by decide +kernel
theorem dX10_breakEven_97 : decode cX10_breakEven 97 = .ok (.iload 6, 2) := by decide +kernel
theorem dX10_breakEven_99 : decode cX10_breakEven 99 = .ok (.iconst 1, 1) := by decide +kernel
theorem dX10_breakEven_100 : decode cX10_breakEven 100 = .ok (.iadd, 1) := by decide +kernel
theorem dX10_breakEven_101 : decode cX10_breakEven 101 = .ok (.istore_n 3, 1) := by decide +kernel
theorem dX10_breakEven_102 : decode cX10_breakEven 102 = .ok (.goto 7, 3) := by decide +kernel
theorem dX10_breakEven_105 : decode cX10_breakEven 105 = .ok (.iload 6, 2) := by decide +kernel
theorem dX10_breakEven_107 : decode cX10_breakEven 107 = .ok (.istore 4, 2) := by decide +kernel
theorem dX10_breakEven_109 : decode cX10_breakEven 109 = .ok (.iinc 5 1, 3) := by decide +kernel
theorem dX10_breakEven_112 : decode cX10_breakEven 112 = .ok (.goto (-56), 3) := by decide +kernel
theorem dX10_breakEven_115 : decode cX10_breakEven 115 = .ok (.iload_n 3, 1) := by decide +kernel
theorem dX10_breakEven_116 : decode cX10_breakEven 116 = .ok (.ireturn, 1) := by decide +kernel
theorem dX10_rateFor_0 : decode cX10_rateFor 0 = .ok (.aload_n 0, 1) := by decide +kernel
theorem dX10_rateFor_1 : decode cX10_rateFor 1 = .ok (.iload_n 1, 1) := by decide +kernel
theorem dX10_rateFor_2 : decode cX10_rateFor 2 = .ok (.invokevirtual 315, 3) := by decide +kernel
theorem dX10_rateFor_5 : decode cX10_rateFor 5 = .ok (.aload_n 0, 1) := by decide +kernel
theorem dX10_rateFor_6 : decode cX10_rateFor 6 = .ok (.iload_n 1, 1) := by decide +kernel
theorem dX10_rateFor_7 : decode cX10_rateFor 7 = .ok (.lload_n 2, 1) := by decide +kernel
theorem dX10_rateFor_8 : decode cX10_rateFor 8 = .ok (.invokevirtual 379, 3) := by decide +kernel
theorem dX10_rateFor_11 : decode cX10_rateFor 11 = .ok (.istore 4, 2) := by decide +kernel
theorem dX10_rateFor_13 : decode cX10_rateFor 13 = .ok (.iload 4, 2) := by decide +kernel
theorem dX10_rateFor_15 : decode cX10_rateFor 15 = .ok (.sipush 9999, 3) := by decide +kernel
theorem dX10_rateFor_18 : decode cX10_rateFor 18 = .ok (.if_icmp .gt 31, 3) := by decide +kernel
theorem dX10_rateFor_21 : decode cX10_rateFor 21 = .ok (.aload_n 0, 1) := by decide +kernel
theorem dX10_rateFor_22 : decode cX10_rateFor 22 = .ok (.getfield 36, 3) := by decide +kernel
theorem dX10_rateFor_25 : decode cX10_rateFor 25 = .ok (.aload_n 0, 1) := by decide +kernel
theorem dX10_rateFor_26 : decode cX10_rateFor 26 = .ok (.getfield 26, 3) := by decide +kernel
theorem dX10_rateFor_29 : decode cX10_rateFor 29 = .ok (.iload_n 1, 1) := by decide +kernel
theorem dX10_rateFor_30 : decode cX10_rateFor 30 = .ok (.iload 4, 2) := by decide +kernel
theorem dX10_rateFor_32 : decode cX10_rateFor 32 = .ok (.invokevirtual 322, 3) := by decide +kernel
theorem dX10_rateFor_35 : decode cX10_rateFor 35 = .ok (.lload_n 2, 1) := by decide +kernel
theorem dX10_rateFor_36 : decode cX10_rateFor 36 = .ok (.lcmp, 1) := by decide +kernel
theorem dX10_rateFor_37 : decode cX10_rateFor 37 = .ok (.ifCond .lt 6, 3) := by decide +kernel
theorem dX10_rateFor_40 : decode cX10_rateFor 40 = .ok (.iload 4, 2) := by decide +kernel
theorem dX10_rateFor_42 : decode cX10_rateFor 42 = .ok (.ireturn, 1) := by decide +kernel
theorem dX10_rateFor_43 : decode cX10_rateFor 43 = .ok (.iinc 4 1, 3) := by decide +kernel
theorem dX10_rateFor_46 : decode cX10_rateFor 46 = .ok (.goto (-33), 3) := by decide +kernel
theorem dX10_rateFor_49 : decode cX10_rateFor 49 = .ok (.new 369, 3) := by decide +kernel
theorem dX10_rateFor_52 : decode cX10_rateFor 52 = .ok (.dup, 1) := by decide +kernel
theorem dX10_rateFor_53 : decode cX10_rateFor 53 = .ok (.ldc_w 383, 3) := by decide +kernel
theorem dX10_rateFor_56 : decode cX10_rateFor 56 = .ok (.invokespecial 373, 3) := by decide +kernel
theorem dX10_rateFor_59 : decode cX10_rateFor 59 = .ok (.athrow, 1) := by decide +kernel
theorem dX10_firstRateInReach_0 : decode cX10_firstRateInReach 0 = .ok (.aload_n 0, 1) := by decide +kernel
theorem dX10_firstRateInReach_1 : decode cX10_firstRateInReach 1 = .ok (.getfield 26, 3) := by decide +kernel
theorem dX10_firstRateInReach_4 : decode cX10_firstRateInReach 4 = .ok (.iload_n 1, 1) := by decide +kernel
theorem dX10_firstRateInReach_5 : decode cX10_firstRateInReach 5 = .ok (.invokevirtual 385, 3) := by decide +kernel
theorem dX10_firstRateInReach_8 : decode cX10_firstRateInReach 8 = .ok (.lstore 4, 2) := by decide +kernel
theorem dX10_firstRateInReach_10 : decode cX10_firstRateInReach 10 = .ok (.sipush (-9000), 3) := by decide +kernel
theorem dX10_firstRateInReach_13 : decode cX10_firstRateInReach 13 = .ok (.istore 6, 2) := by decide +kernel
theorem dX10_firstRateInReach_15 : decode cX10_firstRateInReach 15 = .ok (.sipush 10000, 3) := by decide +kernel
theorem dX10_firstRateInReach_18 : decode cX10_firstRateInReach 18 = .ok (.istore 7, 2) := by decide +kernel
theorem dX10_firstRateInReach_20 : decode cX10_firstRateInReach 20 = .ok (.iconst 0, 1) := by decide +kernel
theorem dX10_firstRateInReach_21 : decode cX10_firstRateInReach 21 = .ok (.istore 8, 2) := by decide +kernel
theorem dX10_firstRateInReach_23 : decode cX10_firstRateInReach 23 = .ok (.iload 8, 2) := by decide +kernel
theorem dX10_firstRateInReach_25 : decode cX10_firstRateInReach 25 = .ok (.bipush 32, 2) := by decide +kernel
theorem dX10_firstRateInReach_27 : decode cX10_firstRateInReach 27 = .ok (.if_icmp .ge 62, 3) := by decide +kernel
theorem dX10_firstRateInReach_30 : decode cX10_firstRateInReach 30 = .ok (.iload 6, 2) := by decide +kernel
theorem dX10_firstRateInReach_32 : decode cX10_firstRateInReach 32 = .ok (.iload 7, 2) := by decide +kernel
theorem dX10_firstRateInReach_34 : decode cX10_firstRateInReach 34 = .ok (.if_icmp .ge 55, 3) := by decide +kernel
theorem dX10_firstRateInReach_37 : decode cX10_firstRateInReach 37 = .ok (.iload 6, 2) := by decide +kernel
theorem dX10_firstRateInReach_39 : decode cX10_firstRateInReach 39 = .ok (.iload 7, 2) := by decide +kernel
theorem dX10_firstRateInReach_41 : decode cX10_firstRateInReach 41 = .ok (.iadd, 1) := by decide +kernel
theorem dX10_firstRateInReach_42 : decode cX10_firstRateInReach 42 = .ok (.iconst 2, 1) := by decide +kernel
theorem dX10_firstRateInReach_43 : decode cX10_firstRateInReach 43 = .ok (.invokestatic 374, 3) := by decide +kernel
theorem dX10_firstRateInReach_46 : decode cX10_firstRateInReach 46 = .ok (.istore 9, 2) := by decide +kernel
theorem dX10_firstRateInReach_48 : decode cX10_firstRateInReach 48 = .ok (.aload_n 0, 1) := by decide +kernel
theorem dX10_firstRateInReach_49 : decode cX10_firstRateInReach 49 = .ok (.getfield 36, 3) := by decide +kernel
theorem dX10_firstRateInReach_52 : decode cX10_firstRateInReach 52 = .ok (.aload_n 0, 1) := by decide +kernel
theorem dX10_firstRateInReach_53 : decode cX10_firstRateInReach 53 = .ok (.getfield 26, 3) := by decide +kernel
theorem dX10_firstRateInReach_56 : decode cX10_firstRateInReach 56 = .ok (.iload_n 1, 1) := by decide +kernel
theorem dX10_firstRateInReach_57 : decode cX10_firstRateInReach 57 = .ok (.iload 9, 2) := by decide +kernel
theorem dX10_firstRateInReach_59 : decode cX10_firstRateInReach 59 = .ok (.invokevirtual 322, 3) := by decide +kernel
theorem dX10_firstRateInReach_62 : decode cX10_firstRateInReach 62 = .ok (.lload 4, 2) := by decide +kernel
theorem dX10_firstRateInReach_64 : decode cX10_firstRateInReach 64 = .ok (.ladd, 1) := by decide +kernel
theorem dX10_firstRateInReach_65 : decode cX10_firstRateInReach 65 = .ok (.lload_n 2, 1) := by decide +kernel
theorem dX10_firstRateInReach_66 : decode cX10_firstRateInReach 66 = .ok (.lcmp, 1) := by decide +kernel
theorem dX10_firstRateInReach_67 : decode cX10_firstRateInReach 67 = .ok (.ifCond .ge 12, 3) := by decide +kernel
theorem dX10_firstRateInReach_70 : decode cX10_firstRateInReach 70 = .ok (.iload 9, 2) := by decide +kernel
theorem dX10_firstRateInReach_72 : decode cX10_firstRateInReach 72 = .ok (.iconst 1, 1) := by decide +kernel
theorem dX10_firstRateInReach_73 : decode cX10_firstRateInReach 73 = .ok (.iadd, 1) := by decide +kernel
theorem dX10_firstRateInReach_74 : decode cX10_firstRateInReach 74 = .ok (.istore 6, 2) := by decide +kernel
theorem dX10_firstRateInReach_76 : decode cX10_firstRateInReach 76 = .ok (.goto 7, 3) := by decide +kernel
theorem dX10_firstRateInReach_79 : decode cX10_firstRateInReach 79 = .ok (.iload 9, 2) := by decide +kernel
theorem dX10_firstRateInReach_81 : decode cX10_firstRateInReach 81 = .ok (.istore 7, 2) := by decide +kernel
theorem dX10_firstRateInReach_83 : decode cX10_firstRateInReach 83 = .ok (.iinc 8 1, 3) := by decide +kernel
theorem dX10_firstRateInReach_86 : decode cX10_firstRateInReach 86 = .ok (.goto (-63), 3) := by decide +kernel
theorem dX10_firstRateInReach_89 : decode cX10_firstRateInReach 89 = .ok (.iload 6, 2) := by decide +kernel
theorem dX10_firstRateInReach_91 : decode cX10_firstRateInReach 91 = .ok (.ireturn, 1) := by decide +kernel
theorem dX10_daysUntil_0 : decode cX10_daysUntil 0 = .ok (.lload_n 1, 1) := by decide +kernel
theorem dX10_daysUntil_1 : decode cX10_daysUntil 1 = .ok (.lconst 0, 1) := by decide +kernel
theorem dX10_daysUntil_2 : decode cX10_daysUntil 2 = .ok (.lcmp, 1) := by decide +kernel
theorem dX10_daysUntil_3 : decode cX10_daysUntil 3 = .ok (.ifCond .ge 14, 3) := by decide +kernel
theorem dX10_daysUntil_6 : decode cX10_daysUntil 6 = .ok (.new 71, 3) := by decide +kernel
theorem dX10_daysUntil_9 : decode cX10_daysUntil 9 = .ok (.dup, 1) := by decide +kernel
theorem dX10_daysUntil_10 : decode cX10_daysUntil 10 = .ok (.ldc_w 388, 3) := by decide +kernel
theorem dX10_daysUntil_13 : decode cX10_daysUntil 13 = .ok (.invokespecial 75, 3) := by decide +kernel
theorem dX10_daysUntil_16 : decode cX10_daysUntil 16 = .ok (.athrow, 1) := by decide +kernel
theorem dX10_daysUntil_17 : decode cX10_daysUntil 17 = .ok (.aload_n 0, 1) := by decide +kernel
theorem dX10_daysUntil_18 : decode cX10_daysUntil 18 = .ok (.getfield 30, 3) := by decide +kernel
theorem dX10_daysUntil_21 : decode cX10_daysUntil 21 = .ok (.aload_n 0, 1) := by decide +kernel
theorem dX10_daysUntil_22 : decode cX10_daysUntil 22 = .ok (.getfield 26, 3) := by decide +kernel
theorem dX10_daysUntil_25 : decode cX10_daysUntil 25 = .ok (.invokevirtual 101, 3) := by decide +kernel
theorem dX10_daysUntil_28 : decode cX10_daysUntil 28 = .ok (.iconst 0, 1) := by decide +kernel
theorem dX10_daysUntil_29 : decode cX10_daysUntil 29 = .ok (.istore_n 3, 1) := by decide +kernel
theorem dX10_daysUntil_30 : decode cX10_daysUntil 30 = .ok (.iload_n 3, 1) := by decide +kernel
theorem dX10_daysUntil_31 : decode cX10_daysUntil 31 = .ok (.sipush 400, 3) := by decide +kernel
theorem dX10_daysUntil_34 : decode cX10_daysUntil 34 = .ok (.if_icmp .gt 32, 3) := by decide +kernel
theorem dX10_daysUntil_37 : decode cX10_daysUntil 37 = .ok (.aload_n 0, 1) := by decide +kernel
theorem dX10_daysUntil_38 : decode cX10_daysUntil 38 = .ok (.getfield 30, 3) := by decide +kernel
theorem dX10_daysUntil_41 : decode cX10_daysUntil 41 = .ok (.invokevirtual 238, 3) := by decide +kernel
theorem dX10_daysUntil_44 : decode cX10_daysUntil 44 = .ok (.lload_n 1, 1) := by decide +kernel
theorem dX10_daysUntil_45 : decode cX10_daysUntil 45 = .ok (.lcmp, 1) := by decide +kernel
theorem dX10_daysUntil_46 : decode cX10_daysUntil 46 = .ok (.ifCond .gt 5, 3) := by decide +kernel
theorem dX10_daysUntil_49 : decode cX10_daysUntil 49 = .ok (.iload_n 3, 1) := by decide +kernel
theorem dX10_daysUntil_50 : decode cX10_daysUntil 50 = .ok (.ireturn, 1) := by decide +kernel
theorem dX10_daysUntil_51 : decode cX10_daysUntil 51 = .ok (.aload_n 0, 1) := by decide +kernel
theorem dX10_daysUntil_52 : decode cX10_daysUntil 52 = .ok (.getfield 30, 3) := by decide +kernel
theorem dX10_daysUntil_55 : decode cX10_daysUntil 55 = .ok (.iconst 1, 1) := by decide +kernel
theorem dX10_daysUntil_56 : decode cX10_daysUntil 56 = .ok (.invokestatic 152, 3) := by decide +kernel
theorem dX10_daysUntil_59 : decode cX10_daysUntil 59 = .ok (.pop2, 1) := by decide +kernel
theorem dX10_daysUntil_60 : decode cX10_daysUntil 60 = .ok (.iinc 3 1, 3) := by decide +kernel
theorem dX10_daysUntil_63 : decode cX10_daysUntil 63 = .ok (.goto (-33), 3) := by decide +kernel
theorem dX10_daysUntil_66 : decode cX10_daysUntil 66 = .ok (.iconst (-1), 1) := by decide +kernel
theorem dX10_daysUntil_67 : decode cX10_daysUntil 67 = .ok (.ireturn, 1) := by decide +kernel
theorem dX10_wouldCrystallize_0 : decode cX10_wouldCrystallize 0 = .ok (.aload_n 0, 1) := by decide +kernel
theorem dX10_wouldCrystallize_1 : decode cX10_wouldCrystallize 1 = .ok (.getfield 30, 3) := by decide +kernel
theorem dX10_wouldCrystallize_4 : decode cX10_wouldCrystallize 4 = .ok (.aload_n 0, 1) := by decide +kernel
theorem dX10_wouldCrystallize_5 : decode cX10_wouldCrystallize 5 = .ok (.getfield 26, 3) := by decide +kernel
theorem dX10_wouldCrystallize_8 : decode cX10_wouldCrystallize 8 = .ok (.invokevirtual 101, 3) := by decide +kernel
theorem dX10_wouldCrystallize_11 : decode cX10_wouldCrystallize 11 = .ok (.aload_n 0, 1) := by decide +kernel
theorem dX10_wouldCrystallize_12 : decode cX10_wouldCrystallize 12 = .ok (.getfield 30, 3) := by decide +kernel
theorem dX10_wouldCrystallize_15 : decode cX10_wouldCrystallize 15 = .ok (.invokestatic 155, 3) := by decide +kernel
theorem dX10_wouldCrystallize_18 : decode cX10_wouldCrystallize 18 = .ok (.lreturn, 1) := by decide +kernel
theorem dX10_wouldMerge_0 : decode cX10_wouldMerge 0 = .ok (.aload_n 0, 1) := by decide +kernel
theorem dX10_wouldMerge_1 : decode cX10_wouldMerge 1 = .ok (.getfield 30, 3) := by decide +kernel
theorem dX10_wouldMerge_4 : decode cX10_wouldMerge 4 = .ok (.aload_n 0, 1) := by decide +kernel
theorem dX10_wouldMerge_5 : decode cX10_wouldMerge 5 = .ok (.getfield 26, 3) := by decide +kernel
theorem dX10_wouldMerge_8 : decode cX10_wouldMerge 8 = .ok (.invokevirtual 101, 3) := by decide +kernel
theorem dX10_wouldMerge_11 : decode cX10_wouldMerge 11 = .ok (.aload_n 0, 1) := by decide +kernel
theorem dX10_wouldMerge_12 : decode cX10_wouldMerge 12 = .ok (.getfield 30, 3) := by decide +kernel
theorem dX10_wouldMerge_15 : decode cX10_wouldMerge 15 = .ok (.invokestatic 155, 3) := by decide +kernel
theorem dX10_wouldMerge_18 : decode cX10_wouldMerge 18 = .ok (.pop2, 1) := by decide +kernel
theorem dX10_wouldMerge_19 : decode cX10_wouldMerge 19 = .ok (.aload_n 0, 1) := by decide +kernel
theorem dX10_wouldMerge_20 : decode cX10_wouldMerge 20 = .ok (.getfield 30, 3) := by decide +kernel
theorem dX10_wouldMerge_23 : decode cX10_wouldMerge 23 = .ok (.invokestatic 159, 3) := by decide +kernel
theorem dX10_wouldMerge_26 : decode cX10_wouldMerge 26 = .ok (.ireturn, 1) := by decide +kernel
theorem dX10_bestGate_0 : decode cX10_bestGate 0 = .ok (.aload_n 0, 1) := by decide +kernel
theorem dX10_bestGate_1 : decode cX10_bestGate 1 = .ok (.iload_n 1, 1) := by decide +kernel
theorem dX10_bestGate_2 : decode cX10_bestGate 2 = .ok (.invokevirtual 122, 3) := by decide +kernel
theorem dX10_bestGate_5 : decode cX10_bestGate 5 = .ok (.aload_n 0, 1) := by decide +kernel
theorem dX10_bestGate_6 : decode cX10_bestGate 6 = .ok (.getfield 26, 3) := by decide +kernel
theorem dX10_bestGate_9 : decode cX10_bestGate 9 = .ok (.getfield 125, 3) := by decide +kernel
theorem dX10_bestGate_12 : decode cX10_bestGate 12 = .ok (.iload_n 1, 1) := by decide +kernel
theorem dX10_bestGate_13 : decode cX10_bestGate 13 = .ok (.aaload, 1) := by decide +kernel
theorem dX10_bestGate_14 : decode cX10_bestGate 14 = .ok (.getfield 310, 3) := by decide +kernel
theorem dX10_bestGate_17 : decode cX10_bestGate 17 = .ok (.ifCond .ne 5, 3) := by decide +kernel
theorem dX10_bestGate_20 : decode cX10_bestGate 20 = .ok (.iconst (-1), 1) := by decide +kernel
theorem dX10_bestGate_21 : decode cX10_bestGate 21 = .ok (.ireturn, 1) := by decide +kernel
theorem dX10_bestGate_22 : decode cX10_bestGate 22 = .ok (.aload_n 0, 1) := by decide +kernel
theorem dX10_bestGate_23 : decode cX10_bestGate 23 = .ok (.getfield 36, 3) := by decide +kernel
theorem dX10_bestGate_26 : decode cX10_bestGate 26 = .ok (.aload_n 0, 1) := by decide +kernel
theorem dX10_bestGate_27 : decode cX10_bestGate 27 = .ok (.getfield 26, 3) := by decide +kernel
theorem dX10_bestGate_30 : decode cX10_bestGate 30 = .ok (.invokevirtual 334, 3) := by decide +kernel
theorem dX10_bestGate_33 : decode cX10_bestGate 33 = .ok (.lstore_n 2, 1) := by decide +kernel
theorem dX10_bestGate_34 : decode cX10_bestGate 34 = .ok (.iconst 1, 1) := by decide +kernel
theorem dX10_bestGate_35 : decode cX10_bestGate 35 = .ok (.istore 4, 2) := by decide +kernel
theorem dX10_bestGate_37 : decode cX10_bestGate 37 = .ok (.iload 4, 2) := by decide +kernel
theorem dX10_bestGate_39 : decode cX10_bestGate 39 = .ok (.bipush 100, 2) := by decide +kernel
theorem dX10_bestGate_41 : decode cX10_bestGate 41 = .ok (.if_icmp .gt 55, 3) := by decide +kernel
theorem dX10_bestGate_44 : decode cX10_bestGate 44 = .ok (.aload_n 0, 1) := by decide +kernel
theorem dX10_bestGate_45 : decode cX10_bestGate 45 = .ok (.getfield 30, 3) := by decide +kernel
theorem dX10_bestGate_48 : decode cX10_bestGate 48 = .ok (.aload_n 0, 1) := by decide +kernel
theorem dX10_bestGate_49 : decode cX10_bestGate 49 = .ok (.getfield 26, 3) := by decide +kernel
theorem dX10_bestGate_52 : decode cX10_bestGate 52 = .ok (.invokevirtual 101, 3) := by decide +kernel
theorem dX10_bestGate_55 : decode cX10_bestGate 55 = .ok (.aload_n 0, 1) := by decide +kernel
theorem dX10_bestGate_56 : decode cX10_bestGate 56 = .ok (.getfield 30, 3) := by decide +kernel
theorem dX10_bestGate_59 : decode cX10_bestGate 59 = .ok (.iload 4, 2) := by decide +kernel
theorem dX10_bestGate_61 : decode cX10_bestGate 61 = .ok (.putfield 176, 3) := by decide +kernel
theorem dX10_bestGate_64 : decode cX10_bestGate 64 = .ok (.aload_n 0, 1) := by decide +kernel
theorem dX10_bestGate_65 : decode cX10_bestGate 65 = .ok (.getfield 36, 3) := by decide +kernel
theorem dX10_bestGate_68 : decode cX10_bestGate 68 = .ok (.aload_n 0, 1) := by decide +kernel
theorem dX10_bestGate_69 : decode cX10_bestGate 69 = .ok (.getfield 30, 3) := by decide +kernel
theorem dX10_bestGate_72 : decode cX10_bestGate 72 = .ok (.lload_n 2, 1) := by decide +kernel
theorem dX10_bestGate_73 : decode cX10_bestGate 73 = .ok (.invokevirtual 340, 3) := by decide +kernel
theorem dX10_bestGate_76 : decode cX10_bestGate 76 = .ok (.aload_n 0, 1) := by decide +kernel
theorem dX10_bestGate_77 : decode cX10_bestGate 77 = .ok (.getfield 30, 3) := by decide +kernel
theorem dX10_bestGate_80 : decode cX10_bestGate 80 = .ok (.iload_n 1, 1) := by decide +kernel
theorem dX10_bestGate_81 : decode cX10_bestGate 81 = .ok (.invokevirtual 350, 3) := by decide +kernel
theorem dX10_bestGate_84 : decode cX10_bestGate 84 = .ok (.ifCond .eq 6, 3) := by decide +kernel
theorem dX10_bestGate_87 : decode cX10_bestGate 87 = .ok (.iload 4, 2) := by decide +kernel
theorem dX10_bestGate_89 : decode cX10_bestGate 89 = .ok (.ireturn, 1) := by decide +kernel
theorem dX10_bestGate_90 : decode cX10_bestGate 90 = .ok (.iinc 4 1, 3) := by decide +kernel
theorem dX10_bestGate_93 : decode cX10_bestGate 93 = .ok (.goto (-56), 3) := by decide +kernel
theorem dX10_bestGate_96 : decode cX10_bestGate 96 = .ok (.iconst (-1), 1) := by decide +kernel
theorem dX10_bestGate_97 : decode cX10_bestGate 97 = .ok (.ireturn, 1) := by decide +kernel
theorem dX10_writeReport_0 : decode cX10_writeReport 0 = .ok (.aload_n 0, 1) := by decide +kernel
theorem dX10_writeReport_1 : decode cX10_writeReport 1 = .ok (.getfield 53, 3) := by decide +kernel
theorem dX10_writeReport_4 : decode cX10_writeReport 4 = .ok (.aload_n 0, 1) := by decide +kernel
theorem dX10_writeReport_5 : decode cX10_writeReport 5 = .ok (.getfield 26, 3) := by decide +kernel
theorem dX10_writeReport_8 : decode cX10_writeReport 8 = .ok (.invokevirtual 390, 3) := by decide +kernel
theorem dX10_writeReport_11 : decode cX10_writeReport 11 = .ok (.aload_n 0, 1) := by decide +kernel
theorem dX10_writeReport_12 : decode cX10_writeReport 12 = .ok (.getfield 53, 3) := by decide +kernel
theorem dX10_writeReport_15 : decode cX10_writeReport 15 = .ok (.getfield 393, 3) := by decide +kernel
theorem dX10_writeReport_18 : decode cX10_writeReport 18 = .ok (.ireturn, 1) := by decide +kernel
theorem dX10_reportByte_0 : decode cX10_reportByte 0 = .ok (.iload_n 1, 1) := by decide +kernel
theorem dX10_reportByte_1 : decode cX10_reportByte 1 = .ok (.ifCond .lt 14, 3) := by decide +kernel
theorem dX10_reportByte_4 : decode cX10_reportByte 4 = .ok (.iload_n 1, 1) := by decide +kernel
theorem dX10_reportByte_5 : decode cX10_reportByte 5 = .ok (.aload_n 0, 1) := by decide +kernel
theorem dX10_reportByte_6 : decode cX10_reportByte 6 = .ok (.getfield 53, 3) := by decide +kernel
theorem dX10_reportByte_9 : decode cX10_reportByte 9 = .ok (.getfield 393, 3) := by decide +kernel
theorem dX10_reportByte_12 : decode cX10_reportByte 12 = .ok (.if_icmp .lt 14, 3) := by decide +kernel
theorem dX10_reportByte_15 : decode cX10_reportByte 15 = .ok (.new 196, 3) := by decide +kernel
theorem dX10_reportByte_18 : decode cX10_reportByte 18 = .ok (.dup, 1) := by decide +kernel
theorem dX10_reportByte_19 : decode cX10_reportByte 19 = .ok (.ldc_w 396, 3) := by decide +kernel
theorem dX10_reportByte_22 : decode cX10_reportByte 22 = .ok (.invokespecial 200, 3) := by decide +kernel
theorem dX10_reportByte_25 : decode cX10_reportByte 25 = .ok (.athrow, 1) := by decide +kernel
theorem dX10_reportByte_26 : decode cX10_reportByte 26 = .ok (.aload_n 0, 1) := by decide +kernel
theorem dX10_reportByte_27 : decode cX10_reportByte 27 = .ok (.getfield 53, 3) := by decide +kernel
theorem dX10_reportByte_30 : decode cX10_reportByte 30 = .ok (.getfield 398, 3) := by decide +kernel
theorem dX10_reportByte_33 : decode cX10_reportByte 33 = .ok (.iload_n 1, 1) := by decide +kernel
theorem dX10_reportByte_34 : decode cX10_reportByte 34 = .ok (.baload, 1) := by decide +kernel
theorem dX10_reportByte_35 : decode cX10_reportByte 35 = .ok (.ireturn, 1) := by decide +kernel
theorem dX10_undo_0 : decode cX10_undo 0 = .ok (.aload_n 0, 1) := by decide +kernel
theorem dX10_undo_1 : decode cX10_undo 1 = .ok (.getfield 47, 3) := by decide +kernel
theorem dX10_undo_4 : decode cX10_undo 4 = .ok (.ifCond .eq 15, 3) := by decide +kernel
theorem dX10_undo_7 : decode cX10_undo 7 = .ok (.aload_n 0, 1) := by decide +kernel
theorem dX10_undo_8 : decode cX10_undo 8 = .ok (.getfield 40, 3) := by decide +kernel
theorem dX10_undo_11 : decode cX10_undo 11 = .ok (.aload_n 0, 1) := by decide +kernel
theorem dX10_undo_12 : decode cX10_undo 12 = .ok (.getfield 44, 3) := by decide +kernel
theorem dX10_undo_15 : decode cX10_undo 15 = .ok (.aaload, 1) := by decide +kernel
theorem dX10_undo_16 : decode cX10_undo 16 = .ok (.ifnonnull 14, 3) := by decide +kernel
theorem dX10_undo_19 : decode cX10_undo 19 = .ok (.new 60, 3) := by decide +kernel
theorem dX10_undo_22 : decode cX10_undo 22 = .ok (.dup, 1) := by decide +kernel
theorem dX10_undo_23 : decode cX10_undo 23 = .ok (.ldc_w 402, 3) := by decide +kernel
theorem dX10_undo_26 : decode cX10_undo 26 = .ok (.invokespecial 64, 3) := by decide +kernel
theorem dX10_undo_29 : decode cX10_undo 29 = .ok (.athrow, 1) := by decide +kernel
theorem dX10_undo_30 : decode cX10_undo 30 = .ok (.aload_n 0, 1) := by decide +kernel
theorem dX10_undo_31 : decode cX10_undo 31 = .ok (.getfield 26, 3) := by decide +kernel
theorem dX10_undo_34 : decode cX10_undo 34 = .ok (.aload_n 0, 1) := by decide +kernel
theorem dX10_undo_35 : decode cX10_undo 35 = .ok (.getfield 40, 3) := by decide +kernel
theorem dX10_undo_38 : decode cX10_undo 38 = .ok (.aload_n 0, 1) := by decide +kernel
theorem dX10_undo_39 : decode cX10_undo 39 = .ok (.getfield 44, 3) := by decide +kernel
theorem dX10_undo_42 : decode cX10_undo 42 = .ok (.aaload, 1) := by decide +kernel
theorem dX10_undo_43 : decode cX10_undo 43 = .ok (.invokevirtual 101, 3) := by decide +kernel
theorem dX10_undo_46 : decode cX10_undo 46 = .ok (.aload_n 0, 1) := by decide +kernel
theorem dX10_undo_47 : decode cX10_undo 47 = .ok (.aload_n 0, 1) := by decide +kernel
theorem dX10_undo_48 : decode cX10_undo 48 = .ok (.getfield 44, 3) := by decide +kernel
theorem dX10_undo_51 : decode cX10_undo 51 = .ok (.ifCond .le 12, 3) := by decide +kernel
theorem dX10_undo_54 : decode cX10_undo 54 = .ok (.aload_n 0, 1) := by decide +kernel
theorem dX10_undo_55 : decode cX10_undo 55 = .ok (.getfield 44, 3) := by decide +kernel
theorem dX10_undo_58 : decode cX10_undo 58 = .ok (.iconst 1, 1) := by decide +kernel
theorem dX10_undo_59 : decode cX10_undo 59 = .ok (.isub, 1) := by decide +kernel
theorem dX10_undo_60 : decode cX10_undo 60 = .ok (.goto 5, 3) := by decide +kernel
theorem dX10_undo_63 : decode cX10_undo 63 = .ok (.bipush 9, 2) := by decide +kernel
theorem dX10_undo_65 : decode cX10_undo 65 = .ok (.putfield 44, 3) := by decide +kernel
theorem dX10_undo_68 : decode cX10_undo 68 = .ok (.aload_n 0, 1) := by decide +kernel
theorem dX10_undo_69 : decode cX10_undo 69 = .ok (.dup, 1) := by decide +kernel
theorem dX10_undo_70 : decode cX10_undo 70 = .ok (.getfield 47, 3) := by decide +kernel
theorem dX10_undo_73 : decode cX10_undo 73 = .ok (.iconst 1, 1) := by decide +kernel
theorem dX10_undo_74 : decode cX10_undo 74 = .ok (.isub, 1) := by decide +kernel
theorem dX10_undo_75 : decode cX10_undo 75 = .ok (.putfield 47, 3) := by decide +kernel
theorem dX10_undo_78 : decode cX10_undo 78 = .ok (.aload_n 0, 1) := by decide +kernel
theorem dX10_undo_79 : decode cX10_undo 79 = .ok (.getfield 47, 3) := by decide +kernel
theorem dX10_undo_82 : decode cX10_undo 82 = .ok (.ireturn, 1) := by decide +kernel
theorem dX10_undoDepth_0 : decode cX10_undoDepth 0 = .ok (.aload_n 0, 1) := by decide +kernel
theorem dX10_undoDepth_1 : decode cX10_undoDepth 1 = .ok (.getfield 47, 3) := by decide +kernel
theorem dX10_undoDepth_4 : decode cX10_undoDepth 4 = .ok (.ireturn, 1) := by decide +kernel
theorem dJx00060_init_a7421_0 : decode cJx00060_init_a7421 0 = .ok (.aload_n 0, 1) := by decide +kernel
theorem dJx00060_init_a7421_1 : decode cJx00060_init_a7421 1 = .ok (.aload_n 1, 1) := by decide +kernel
theorem dJx00060_init_a7421_2 : decode cJx00060_init_a7421 2 = .ok (.invokespecial 7, 3) := by decide +kernel
theorem dJx00060_init_a7421_5 : decode cJx00060_init_a7421 5 = .ok (.return_, 1) := by decide +kernel
theorem dJ9_floorDiv_7cf53_0 : decode cJ9_floorDiv_7cf53 0 = .ok (.iload_n 0, 1) := by decide +kernel
theorem dJ9_floorDiv_7cf53_1 : decode cJ9_floorDiv_7cf53 1 = .ok (.iload_n 1, 1) := by decide +kernel
theorem dJ9_floorDiv_7cf53_2 : decode cJ9_floorDiv_7cf53 2 = .ok (.idiv, 1) := by decide +kernel
theorem dJ9_floorDiv_7cf53_3 : decode cJ9_floorDiv_7cf53 3 = .ok (.istore_n 2, 1) := by decide +kernel
theorem dJ9_floorDiv_7cf53_4 : decode cJ9_floorDiv_7cf53 4 = .ok (.iload_n 0, 1) := by decide +kernel
theorem dJ9_floorDiv_7cf53_5 : decode cJ9_floorDiv_7cf53 5 = .ok (.iload_n 1, 1) := by decide +kernel
theorem dJ9_floorDiv_7cf53_6 : decode cJ9_floorDiv_7cf53 6 = .ok (.ixor, 1) := by decide +kernel
theorem dJ9_floorDiv_7cf53_7 : decode cJ9_floorDiv_7cf53 7 = .ok (.ifCond .ge 14, 3) := by decide +kernel
theorem dJ9_floorDiv_7cf53_10 : decode cJ9_floorDiv_7cf53 10 = .ok (.iload_n 2, 1) := by decide +kernel
theorem dJ9_floorDiv_7cf53_11 : decode cJ9_floorDiv_7cf53 11 = .ok (.iload_n 1, 1) := by decide +kernel
theorem dJ9_floorDiv_7cf53_12 : decode cJ9_floorDiv_7cf53 12 = .ok (.imul, 1) := by decide +kernel
theorem dJ9_floorDiv_7cf53_13 : decode cJ9_floorDiv_7cf53 13 = .ok (.iload_n 0, 1) := by decide +kernel
theorem dJ9_floorDiv_7cf53_14 : decode cJ9_floorDiv_7cf53 14 = .ok (.if_icmp .eq 7, 3) := by decide +kernel
theorem dJ9_floorDiv_7cf53_17 : decode cJ9_floorDiv_7cf53 17 = .ok (.iload_n 2, 1) := by decide +kernel
theorem dJ9_floorDiv_7cf53_18 : decode cJ9_floorDiv_7cf53 18 = .ok (.iconst 1, 1) := by decide +kernel
theorem dJ9_floorDiv_7cf53_19 : decode cJ9_floorDiv_7cf53 19 = .ok (.isub, 1) := by decide +kernel
theorem dJ9_floorDiv_7cf53_20 : decode cJ9_floorDiv_7cf53 20 = .ok (.ireturn, 1) := by decide +kernel
theorem dJ9_floorDiv_7cf53_21 : decode cJ9_floorDiv_7cf53 21 = .ok (.iload_n 2, 1) := by decide +kernel
theorem dJ9_floorDiv_7cf53_22 : decode cJ9_floorDiv_7cf53 22 = .ok (.ireturn, 1) := by decide +kernel
theorem dJ9_abs_067f4_0 : decode cJ9_abs_067f4 0 = .ok (.lload_n 0, 1) := by decide +kernel
theorem dJ9_abs_067f4_1 : decode cJ9_abs_067f4 1 = .ok (.lconst 0, 1) := by decide +kernel
theorem dJ9_abs_067f4_2 : decode cJ9_abs_067f4 2 = .ok (.lcmp, 1) := by decide +kernel
theorem dJ9_abs_067f4_3 : decode cJ9_abs_067f4 3 = .ok (.ifCond .ge 8, 3) := by decide +kernel
theorem dJ9_abs_067f4_6 : decode cJ9_abs_067f4 6 = .ok (.lload_n 0, 1) := by decide +kernel
theorem dJ9_abs_067f4_7 : decode cJ9_abs_067f4 7 = .ok (.lneg, 1) := by decide +kernel
theorem dJ9_abs_067f4_8 : decode cJ9_abs_067f4 8 = .ok (.goto 4, 3) := by decide +kernel
theorem dJ9_abs_067f4_11 : decode cJ9_abs_067f4 11 = .ok (.lload_n 0, 1) := by decide +kernel
theorem dJ9_abs_067f4_12 : decode cJ9_abs_067f4 12 = .ok (.lreturn, 1) := by decide +kernel
theorem dJ9_min_7cf53_0 : decode cJ9_min_7cf53 0 = .ok (.iload_n 0, 1) := by decide +kernel
theorem dJ9_min_7cf53_1 : decode cJ9_min_7cf53 1 = .ok (.iload_n 1, 1) := by decide +kernel
theorem dJ9_min_7cf53_2 : decode cJ9_min_7cf53 2 = .ok (.if_icmp .gt 7, 3) := by decide +kernel
theorem dJ9_min_7cf53_5 : decode cJ9_min_7cf53 5 = .ok (.iload_n 0, 1) := by decide +kernel
theorem dJ9_min_7cf53_6 : decode cJ9_min_7cf53 6 = .ok (.goto 4, 3) := by decide +kernel
theorem dJ9_min_7cf53_9 : decode cJ9_min_7cf53 9 = .ok (.iload_n 1, 1) := by decide +kernel
theorem dJ9_min_7cf53_10 : decode cJ9_min_7cf53 10 = .ok (.ireturn, 1) := by decide +kernel
theorem dJ9_min_f86c9_0 : decode cJ9_min_f86c9 0 = .ok (.lload_n 0, 1) := by decide +kernel
theorem dJ9_min_f86c9_1 : decode cJ9_min_f86c9 1 = .ok (.lload_n 2, 1) := by decide +kernel
theorem dJ9_min_f86c9_2 : decode cJ9_min_f86c9 2 = .ok (.lcmp, 1) := by decide +kernel
theorem dJ9_min_f86c9_3 : decode cJ9_min_f86c9 3 = .ok (.ifCond .gt 7, 3) := by decide +kernel
theorem dJ9_min_f86c9_6 : decode cJ9_min_f86c9 6 = .ok (.lload_n 0, 1) := by decide +kernel
theorem dJ9_min_f86c9_7 : decode cJ9_min_f86c9 7 = .ok (.goto 4, 3) := by decide +kernel
theorem dJ9_min_f86c9_10 : decode cJ9_min_f86c9 10 = .ok (.lload_n 2, 1) := by decide +kernel
theorem dJ9_min_f86c9_11 : decode cJ9_min_f86c9 11 = .ok (.lreturn, 1) := by decide +kernel
theorem dJ0_length_8abf5_0 : decode cJ0_length_8abf5 0 = .ok (.aload_n 0, 1) := by decide +kernel
theorem dJ0_length_8abf5_1 : decode cJ0_length_8abf5 1 = .ok (.getfield 9, 3) := by decide +kernel
theorem dJ0_length_8abf5_4 : decode cJ0_length_8abf5 4 = .ok (.arraylength, 1) := by decide +kernel
theorem dJ0_length_8abf5_5 : decode cJ0_length_8abf5 5 = .ok (.aload_n 0, 1) := by decide +kernel
theorem dJ0_length_8abf5_6 : decode cJ0_length_8abf5 6 = .ok (.invokevirtual 335, 3) := by decide +kernel
theorem dJ0_length_8abf5_9 : decode cJ0_length_8abf5 9 = .ok (.ishr, 1) := by decide +kernel
theorem dJ0_length_8abf5_10 : decode cJ0_length_8abf5 10 = .ok (.ireturn, 1) := by decide +kernel
theorem dJ0_charAt_5068e_0 : decode cJ0_charAt_5068e 0 = .ok (.aload_n 0, 1) := by decide +kernel
theorem dJ0_charAt_5068e_1 : decode cJ0_charAt_5068e 1 = .ok (.invokevirtual 492, 3) := by decide +kernel
theorem dJ0_charAt_5068e_4 : decode cJ0_charAt_5068e 4 = .ok (.ifCond .eq 12, 3) := by decide +kernel
theorem dJ0_charAt_5068e_7 : decode cJ0_charAt_5068e 7 = .ok (.aload_n 0, 1) := by decide +kernel
theorem dJ0_charAt_5068e_8 : decode cJ0_charAt_5068e 8 = .ok (.getfield 9, 3) := by decide +kernel
theorem dJ0_charAt_5068e_11 : decode cJ0_charAt_5068e 11 = .ok (.iload_n 1, 1) := by decide +kernel
theorem dJ0_charAt_5068e_12 : decode cJ0_charAt_5068e 12 = .ok (.invokestatic 495, 3) := by decide +kernel
theorem dJ0_charAt_5068e_15 : decode cJ0_charAt_5068e 15 = .ok (.ireturn, 1) := by decide +kernel
theorem dJ0_charAt_5068e_16 : decode cJ0_charAt_5068e 16 = .ok (.aload_n 0, 1) := by decide +kernel
theorem dJ0_charAt_5068e_17 : decode cJ0_charAt_5068e 17 = .ok (.getfield 9, 3) := by decide +kernel
theorem dJ0_charAt_5068e_20 : decode cJ0_charAt_5068e 20 = .ok (.iload_n 1, 1) := by decide +kernel
theorem dJ0_charAt_5068e_21 : decode cJ0_charAt_5068e 21 = .ok (.invokestatic 498, 3) := by decide +kernel
theorem dJ0_charAt_5068e_24 : decode cJ0_charAt_5068e 24 = .ok (.ireturn, 1) := by decide +kernel
theorem dJ0_coder_7d493_0 : decode cJ0_coder_7d493 0 = .ok (.getstatic 38, 3) := by decide +kernel
theorem dJ0_coder_7d493_3 : decode cJ0_coder_7d493 3 = .ok (.ifCond .eq 10, 3) := by decide +kernel
theorem dJ0_coder_7d493_6 : decode cJ0_coder_7d493 6 = .ok (.aload_n 0, 1) := by decide +kernel
theorem dJ0_coder_7d493_7 : decode cJ0_coder_7d493 7 = .ok (.getfield 15, 3) := by decide +kernel
theorem dJ0_coder_7d493_10 : decode cJ0_coder_7d493 10 = .ok (.goto 4, 3) := by decide +kernel
theorem dJ0_coder_7d493_13 : decode cJ0_coder_7d493 13 = .ok (.iconst 1, 1) := by decide +kernel
theorem dJ0_coder_7d493_14 : decode cJ0_coder_7d493 14 = .ok (.ireturn, 1) := by decide +kernel
theorem dJ0_isLatin1_aae02_0 : decode cJ0_isLatin1_aae02 0 = .ok (.getstatic 38, 3) := by decide +kernel
theorem dJ0_isLatin1_aae02_3 : decode cJ0_isLatin1_aae02 3 = .ok (.ifCond .eq 14, 3) := by decide +kernel
theorem dJ0_isLatin1_aae02_6 : decode cJ0_isLatin1_aae02 6 = .ok (.aload_n 0, 1) := by decide +kernel
theorem dJ0_isLatin1_aae02_7 : decode cJ0_isLatin1_aae02 7 = .ok (.getfield 15, 3) := by decide +kernel
theorem dJ0_isLatin1_aae02_10 : decode cJ0_isLatin1_aae02 10 = .ok (.ifCond .ne 7, 3) := by decide +kernel
theorem dJ0_isLatin1_aae02_13 : decode cJ0_isLatin1_aae02 13 = .ok (.iconst 1, 1) := by decide +kernel
theorem dJ0_isLatin1_aae02_14 : decode cJ0_isLatin1_aae02 14 = .ok (.goto 4, 3) := by decide +kernel
theorem dJ0_isLatin1_aae02_17 : decode cJ0_isLatin1_aae02 17 = .ok (.iconst 0, 1) := by decide +kernel
theorem dJ0_isLatin1_aae02_18 : decode cJ0_isLatin1_aae02 18 = .ok (.ireturn, 1) := by decide +kernel
theorem dJ0_checkIndex_df160_0 : decode cJ0_checkIndex_df160 0 = .ok (.iload_n 0, 1) := by decide +kernel
theorem dJ0_checkIndex_df160_1 : decode cJ0_checkIndex_df160 1 = .ok (.iload_n 1, 1) := by decide +kernel
theorem dJ0_checkIndex_df160_2 : decode cJ0_checkIndex_df160 2 = .ok (.getstatic 1053, 3) := by decide +kernel
theorem dJ0_checkIndex_df160_5 : decode cJ0_checkIndex_df160 5 = .ok (.invokestatic 1059, 3) := by decide +kernel
theorem dJ0_checkIndex_df160_8 : decode cJ0_checkIndex_df160 8 = .ok (.pop, 1) := by decide +kernel
theorem dJ0_checkIndex_df160_9 : decode cJ0_checkIndex_df160 9 = .ok (.return_, 1) := by decide +kernel
theorem dJ1_charAt_3b067_0 : decode cJ1_charAt_3b067 0 = .ok (.iload_n 1, 1) := by decide +kernel
theorem dJ1_charAt_3b067_1 : decode cJ1_charAt_3b067 1 = .ok (.aload_n 0, 1) := by decide +kernel
theorem dJ1_charAt_3b067_2 : decode cJ1_charAt_3b067 2 = .ok (.arraylength, 1) := by decide +kernel
theorem dJ1_charAt_3b067_3 : decode cJ1_charAt_3b067 3 = .ok (.invokestatic 9, 3) := by decide +kernel
theorem dJ1_charAt_3b067_6 : decode cJ1_charAt_3b067 6 = .ok (.aload_n 0, 1) := by decide +kernel
theorem dJ1_charAt_3b067_7 : decode cJ1_charAt_3b067 7 = .ok (.iload_n 1, 1) := by decide +kernel
theorem dJ1_charAt_3b067_8 : decode cJ1_charAt_3b067 8 = .ok (.baload, 1) := by decide +kernel
theorem dJ1_charAt_3b067_9 : decode cJ1_charAt_3b067 9 = .ok (.sipush 255, 3) := by decide +kernel
theorem dJ1_charAt_3b067_12 : decode cJ1_charAt_3b067 12 = .ok (.iand, 1) := by decide +kernel
theorem dJ1_charAt_3b067_13 : decode cJ1_charAt_3b067 13 = .ok (.i2c, 1) := by decide +kernel
theorem dJ1_charAt_3b067_14 : decode cJ1_charAt_3b067 14 = .ok (.ireturn, 1) := by decide +kernel
theorem dJ2_getChar_3b067_0 : decode cJ2_getChar_3b067 0 = .ok (.getstatic 44, 3) := by decide +kernel
theorem dJ2_getChar_3b067_3 : decode cJ2_getChar_3b067 3 = .ok (.ifCond .ne 25, 3) := by decide +kernel
theorem dJ2_getChar_3b067_6 : decode cJ2_getChar_3b067 6 = .ok (.iload_n 1, 1) := by decide +kernel
theorem dJ2_getChar_3b067_7 : decode cJ2_getChar_3b067 7 = .ok (.ifCond .lt 11, 3) := by decide +kernel
theorem dJ2_getChar_3b067_10 : decode cJ2_getChar_3b067 10 = .ok (.iload_n 1, 1) := by decide +kernel
theorem dJ2_getChar_3b067_11 : decode cJ2_getChar_3b067 11 = .ok (.aload_n 0, 1) := by decide +kernel
theorem dJ2_getChar_3b067_12 : decode cJ2_getChar_3b067 12 = .ok (.invokestatic 48, 3) := by decide +kernel
theorem dJ2_getChar_3b067_15 : decode cJ2_getChar_3b067 15 = .ok (.if_icmp .lt 13, 3) := by decide +kernel
theorem dJ2_getChar_3b067_18 : decode cJ2_getChar_3b067 18 = .ok (.new 52, 3) := by decide +kernel
theorem dJ2_getChar_3b067_21 : decode cJ2_getChar_3b067 21 = .ok (.dup, 1) := by decide +kernel
theorem dJ2_getChar_3b067_22 : decode cJ2_getChar_3b067 22 = .ok (.ldc 54, 2) := by decide +kernel
theorem dJ2_getChar_3b067_24 : decode cJ2_getChar_3b067 24 = .ok (.invokespecial 56, 3) := by decide +kernel
theorem dJ2_getChar_3b067_27 : decode cJ2_getChar_3b067 27 = .ok (.athrow, 1) := by decide +kernel
theorem dJ2_getChar_3b067_28 : decode cJ2_getChar_3b067 28 = .ok (.iload_n 1, 1) := by decide +kernel
theorem dJ2_getChar_3b067_29 : decode cJ2_getChar_3b067 29 = .ok (.iconst 1, 1) := by decide +kernel
theorem dJ2_getChar_3b067_30 : decode cJ2_getChar_3b067 30 = .ok (.ishl, 1) := by decide +kernel
theorem dJ2_getChar_3b067_31 : decode cJ2_getChar_3b067 31 = .ok (.istore_n 1, 1) := by decide +kernel
theorem dJ2_getChar_3b067_32 : decode cJ2_getChar_3b067 32 = .ok (.aload_n 0, 1) := by decide +kernel
theorem dJ2_getChar_3b067_33 : decode cJ2_getChar_3b067 33 = .ok (.iload_n 1, 1) := by decide +kernel
theorem dJ2_getChar_3b067_34 : decode cJ2_getChar_3b067 34 = .ok (.iinc 1 1, 3) := by decide +kernel
theorem dJ2_getChar_3b067_37 : decode cJ2_getChar_3b067 37 = .ok (.baload, 1) := by decide +kernel
theorem dJ2_getChar_3b067_38 : decode cJ2_getChar_3b067 38 = .ok (.sipush 255, 3) := by decide +kernel
theorem dJ2_getChar_3b067_41 : decode cJ2_getChar_3b067 41 = .ok (.iand, 1) := by decide +kernel
theorem dJ2_getChar_3b067_42 : decode cJ2_getChar_3b067 42 = .ok (.getstatic 59, 3) := by decide +kernel
theorem dJ2_getChar_3b067_45 : decode cJ2_getChar_3b067 45 = .ok (.ishl, 1) := by decide +kernel
theorem dJ2_getChar_3b067_46 : decode cJ2_getChar_3b067 46 = .ok (.aload_n 0, 1) := by decide +kernel
theorem dJ2_getChar_3b067_47 : decode cJ2_getChar_3b067 47 = .ok (.iload_n 1, 1) := by decide +kernel
theorem dJ2_getChar_3b067_48 : decode cJ2_getChar_3b067 48 = .ok (.baload, 1) := by decide +kernel
theorem dJ2_getChar_3b067_49 : decode cJ2_getChar_3b067 49 = .ok (.sipush 255, 3) := by decide +kernel
theorem dJ2_getChar_3b067_52 : decode cJ2_getChar_3b067 52 = .ok (.iand, 1) := by decide +kernel
theorem dJ2_getChar_3b067_53 : decode cJ2_getChar_3b067 53 = .ok (.getstatic 63, 3) := by decide +kernel
theorem dJ2_getChar_3b067_56 : decode cJ2_getChar_3b067 56 = .ok (.ishl, 1) := by decide +kernel
theorem dJ2_getChar_3b067_57 : decode cJ2_getChar_3b067 57 = .ok (.ior, 1) := by decide +kernel
theorem dJ2_getChar_3b067_58 : decode cJ2_getChar_3b067 58 = .ok (.i2c, 1) := by decide +kernel
theorem dJ2_getChar_3b067_59 : decode cJ2_getChar_3b067 59 = .ok (.ireturn, 1) := by decide +kernel
theorem dJ2_length_9d52b_0 : decode cJ2_length_9d52b 0 = .ok (.aload_n 0, 1) := by decide +kernel
theorem dJ2_length_9d52b_1 : decode cJ2_length_9d52b 1 = .ok (.arraylength, 1) := by decide +kernel
theorem dJ2_length_9d52b_2 : decode cJ2_length_9d52b 2 = .ok (.iconst 1, 1) := by decide +kernel
theorem dJ2_length_9d52b_3 : decode cJ2_length_9d52b 3 = .ok (.ishr, 1) := by decide +kernel
theorem dJ2_length_9d52b_4 : decode cJ2_length_9d52b 4 = .ok (.ireturn, 1) := by decide +kernel
theorem dJ2_charAt_3b067_0 : decode cJ2_charAt_3b067 0 = .ok (.iload_n 1, 1) := by decide +kernel
theorem dJ2_charAt_3b067_1 : decode cJ2_charAt_3b067 1 = .ok (.aload_n 0, 1) := by decide +kernel
theorem dJ2_charAt_3b067_2 : decode cJ2_charAt_3b067 2 = .ok (.invokestatic 67, 3) := by decide +kernel
theorem dJ2_charAt_3b067_5 : decode cJ2_charAt_3b067 5 = .ok (.aload_n 0, 1) := by decide +kernel
theorem dJ2_charAt_3b067_6 : decode cJ2_charAt_3b067 6 = .ok (.iload_n 1, 1) := by decide +kernel
theorem dJ2_charAt_3b067_7 : decode cJ2_charAt_3b067 7 = .ok (.invokestatic 71, 3) := by decide +kernel
theorem dJ2_charAt_3b067_10 : decode cJ2_charAt_3b067 10 = .ok (.ireturn, 1) := by decide +kernel
theorem dJ2_checkIndex_2214a_0 : decode cJ2_checkIndex_2214a 0 = .ok (.iload_n 0, 1) := by decide +kernel
theorem dJ2_checkIndex_2214a_1 : decode cJ2_checkIndex_2214a 1 = .ok (.aload_n 1, 1) := by decide +kernel
theorem dJ2_checkIndex_2214a_2 : decode cJ2_checkIndex_2214a 2 = .ok (.invokestatic 48, 3) := by decide +kernel
theorem dJ2_checkIndex_2214a_5 : decode cJ2_checkIndex_2214a 5 = .ok (.invokestatic 414, 3) := by decide +kernel
theorem dJ2_checkIndex_2214a_8 : decode cJ2_checkIndex_2214a 8 = .ok (.return_, 1) := by decide +kernel
theorem dJ3_checkIndex_8e157_0 : decode cJ3_checkIndex_8e157 0 = .ok (.iload_n 0, 1) := by decide +kernel
theorem dJ3_checkIndex_8e157_1 : decode cJ3_checkIndex_8e157 1 = .ok (.ifCond .lt 8, 3) := by decide +kernel
theorem dJ3_checkIndex_8e157_4 : decode cJ3_checkIndex_8e157 4 = .ok (.iload_n 0, 1) := by decide +kernel
theorem dJ3_checkIndex_8e157_5 : decode cJ3_checkIndex_8e157 5 = .ok (.iload_n 1, 1) := by decide +kernel
theorem dJ3_checkIndex_8e157_6 : decode cJ3_checkIndex_8e157 6 = .ok (.if_icmp .lt 10, 3) := by decide +kernel
theorem dJ3_checkIndex_8e157_9 : decode cJ3_checkIndex_8e157 9 = .ok (.aload_n 2, 1) := by decide +kernel
theorem dJ3_checkIndex_8e157_10 : decode cJ3_checkIndex_8e157 10 = .ok (.iload_n 0, 1) := by decide +kernel
theorem dJ3_checkIndex_8e157_11 : decode cJ3_checkIndex_8e157 11 = .ok (.iload_n 1, 1) := by decide +kernel
theorem dJ3_checkIndex_8e157_12 : decode cJ3_checkIndex_8e157 12 = .ok (.invokestatic 95, 3) := by decide +kernel
theorem dJ3_checkIndex_8e157_15 : decode cJ3_checkIndex_8e157 15 = .ok (.athrow, 1) := by decide +kernel
theorem dJ3_checkIndex_8e157_16 : decode cJ3_checkIndex_8e157 16 = .ok (.iload_n 0, 1) := by decide +kernel
theorem dJ3_checkIndex_8e157_17 : decode cJ3_checkIndex_8e157 17 = .ok (.ireturn, 1) := by decide +kernel
