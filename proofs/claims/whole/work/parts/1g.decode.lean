theorem d_SlippedStreamsModel_reset_81 : decode b_SlippedStreamsModel_reset 81 = .ok (.iload_n 1, 1) := by decide +kernel
theorem d_SlippedStreamsModel_reset_82 : decode b_SlippedStreamsModel_reset 82 = .ok (.iconst 5, 1) := by decide +kernel
theorem d_SlippedStreamsModel_reset_83 : decode b_SlippedStreamsModel_reset 83 = .ok (.if_icmp .ge 16, 3) := by decide +kernel
theorem d_SlippedStreamsModel_reset_86 : decode b_SlippedStreamsModel_reset 86 = .ok (.aload_n 0, 1) := by decide +kernel
theorem d_SlippedStreamsModel_reset_87 : decode b_SlippedStreamsModel_reset 87 = .ok (.getfield 41, 3) := by decide +kernel
theorem d_SlippedStreamsModel_reset_90 : decode b_SlippedStreamsModel_reset 90 = .ok (.iload_n 1, 1) := by decide +kernel
theorem d_SlippedStreamsModel_reset_91 : decode b_SlippedStreamsModel_reset 91 = .ok (.iconst 0, 1) := by decide +kernel
theorem d_SlippedStreamsModel_reset_92 : decode b_SlippedStreamsModel_reset 92 = .ok (.iastore, 1) := by decide +kernel
theorem d_SlippedStreamsModel_reset_93 : decode b_SlippedStreamsModel_reset 93 = .ok (.iinc 1 1, 3) := by decide +kernel
theorem d_SlippedStreamsModel_reset_96 : decode b_SlippedStreamsModel_reset 96 = .ok (.goto (-15), 3) := by decide +kernel
theorem d_SlippedStreamsModel_reset_99 : decode b_SlippedStreamsModel_reset 99 = .ok (.aload_n 0, 1) := by decide +kernel
theorem d_SlippedStreamsModel_reset_100 : decode b_SlippedStreamsModel_reset 100 = .ok (.iconst 0, 1) := by decide +kernel
theorem d_SlippedStreamsModel_reset_101 : decode b_SlippedStreamsModel_reset 101 = .ok (.putfield 82, 3) := by decide +kernel
theorem d_SlippedStreamsModel_reset_104 : decode b_SlippedStreamsModel_reset 104 = .ok (.aload_n 0, 1) := by decide +kernel
theorem d_SlippedStreamsModel_reset_105 : decode b_SlippedStreamsModel_reset 105 = .ok (.iconst 0, 1) := by decide +kernel
theorem d_SlippedStreamsModel_reset_106 : decode b_SlippedStreamsModel_reset 106 = .ok (.putfield 85, 3) := by decide +kernel
theorem d_SlippedStreamsModel_reset_109 : decode b_SlippedStreamsModel_reset 109 = .ok (.aload_n 0, 1) := by decide +kernel
theorem d_SlippedStreamsModel_reset_110 : decode b_SlippedStreamsModel_reset 110 = .ok (.iconst 0, 1) := by decide +kernel
theorem d_SlippedStreamsModel_reset_111 : decode b_SlippedStreamsModel_reset 111 = .ok (.putfield 89, 3) := by decide +kernel
theorem d_SlippedStreamsModel_reset_114 : decode b_SlippedStreamsModel_reset 114 = .ok (.aload_n 0, 1) := by decide +kernel
theorem d_SlippedStreamsModel_reset_115 : decode b_SlippedStreamsModel_reset 115 = .ok (.iconst 0, 1) := by decide +kernel
theorem d_SlippedStreamsModel_reset_116 : decode b_SlippedStreamsModel_reset 116 = .ok (.putfield 92, 3) := by decide +kernel
theorem d_SlippedStreamsModel_reset_119 : decode b_SlippedStreamsModel_reset 119 = .ok (.aload_n 0, 1) := by decide +kernel
theorem d_SlippedStreamsModel_reset_120 : decode b_SlippedStreamsModel_reset 120 = .ok (.iconst 0, 1) := by decide +kernel
theorem d_SlippedStreamsModel_reset_121 : decode b_SlippedStreamsModel_reset 121 = .ok (.putfield 95, 3) := by decide +kernel
theorem d_SlippedStreamsModel_reset_124 : decode b_SlippedStreamsModel_reset 124 = .ok (.aload_n 0, 1) := by decide +kernel
theorem d_SlippedStreamsModel_reset_125 : decode b_SlippedStreamsModel_reset 125 = .ok (.iconst 0, 1) := by decide +kernel
theorem d_SlippedStreamsModel_reset_126 : decode b_SlippedStreamsModel_reset 126 = .ok (.putfield 98, 3) := by decide +kernel
theorem d_SlippedStreamsModel_reset_129 : decode b_SlippedStreamsModel_reset 129 = .ok (.iconst 0, 1) := by decide +kernel
theorem d_SlippedStreamsModel_reset_130 : decode b_SlippedStreamsModel_reset 130 = .ok (.istore_n 1, 1) := by decide +kernel
theorem d_SlippedStreamsModel_reset_131 : decode b_SlippedStreamsModel_reset 131 = .ok (.iload_n 1, 1) := by decide +kernel
theorem d_SlippedStreamsModel_reset_132 : decode b_SlippedStreamsModel_reset 132 = .ok (.iconst 2, 1) := by decide +kernel
theorem d_SlippedStreamsModel_reset_133 : decode b_SlippedStreamsModel_reset 133 = .ok (.if_icmp .ge 28, 3) := by decide +kernel
theorem d_SlippedStreamsModel_reset_136 : decode b_SlippedStreamsModel_reset 136 = .ok (.aload_n 0, 1) := by decide +kernel
theorem d_SlippedStreamsModel_reset_137 : decode b_SlippedStreamsModel_reset 137 = .ok (.getfield 29, 3) := by decide +kernel
theorem d_SlippedStreamsModel_reset_140 : decode b_SlippedStreamsModel_reset 140 = .ok (.iload_n 1, 1) := by decide +kernel
theorem d_SlippedStreamsModel_reset_141 : decode b_SlippedStreamsModel_reset 141 = .ok (.iconst 0, 1) := by decide +kernel
theorem d_SlippedStreamsModel_reset_142 : decode b_SlippedStreamsModel_reset 142 = .ok (.iastore, 1) := by decide +kernel
theorem d_SlippedStreamsModel_reset_143 : decode b_SlippedStreamsModel_reset 143 = .ok (.aload_n 0, 1) := by decide +kernel
theorem d_SlippedStreamsModel_reset_144 : decode b_SlippedStreamsModel_reset 144 = .ok (.getfield 32, 3) := by decide +kernel
theorem d_SlippedStreamsModel_reset_147 : decode b_SlippedStreamsModel_reset 147 = .ok (.iload_n 1, 1) := by decide +kernel
theorem d_SlippedStreamsModel_reset_148 : decode b_SlippedStreamsModel_reset 148 = .ok (.iconst 0, 1) := by decide +kernel
theorem d_SlippedStreamsModel_reset_149 : decode b_SlippedStreamsModel_reset 149 = .ok (.iastore, 1) := by decide +kernel
theorem d_SlippedStreamsModel_reset_150 : decode b_SlippedStreamsModel_reset 150 = .ok (.aload_n 0, 1) := by decide +kernel
theorem d_SlippedStreamsModel_reset_151 : decode b_SlippedStreamsModel_reset 151 = .ok (.iload_n 1, 1) := by decide +kernel
theorem d_SlippedStreamsModel_reset_152 : decode b_SlippedStreamsModel_reset 152 = .ok (.invokevirtual 101, 3) := by decide +kernel
theorem d_SlippedStreamsModel_reset_155 : decode b_SlippedStreamsModel_reset 155 = .ok (.iinc 1 1, 3) := by decide +kernel
theorem d_SlippedStreamsModel_reset_158 : decode b_SlippedStreamsModel_reset 158 = .ok (.goto (-27), 3) := by decide +kernel
theorem d_SlippedStreamsModel_reset_161 : decode b_SlippedStreamsModel_reset 161 = .ok (.return_, 1) := by decide +kernel
theorem d_SlippedStreamsModel_isRegister_0 : decode b_SlippedStreamsModel_isRegister 0 = .ok (.iload_n 0, 1) := by decide +kernel
theorem d_SlippedStreamsModel_isRegister_1 : decode b_SlippedStreamsModel_isRegister 1 = .ok (.ifCond .lt 13, 3) := by decide +kernel
theorem d_SlippedStreamsModel_isRegister_4 : decode b_SlippedStreamsModel_isRegister 4 = .ok (.iload_n 0, 1) := by decide +kernel
theorem d_SlippedStreamsModel_isRegister_5 : decode b_SlippedStreamsModel_isRegister 5 = .ok (.bipush 8, 2) := by decide +kernel
theorem d_SlippedStreamsModel_isRegister_7 : decode b_SlippedStreamsModel_isRegister 7 = .ok (.if_icmp .ge 7, 3) := by decide +kernel
theorem d_SlippedStreamsModel_isRegister_10 : decode b_SlippedStreamsModel_isRegister 10 = .ok (.iconst 1, 1) := by decide +kernel
theorem d_SlippedStreamsModel_isRegister_11 : decode b_SlippedStreamsModel_isRegister 11 = .ok (.goto 4, 3) := by decide +kernel
theorem d_SlippedStreamsModel_isRegister_14 : decode b_SlippedStreamsModel_isRegister 14 = .ok (.iconst 0, 1) := by decide +kernel
theorem d_SlippedStreamsModel_isRegister_15 : decode b_SlippedStreamsModel_isRegister 15 = .ok (.ireturn, 1) := by decide +kernel
theorem d_SlippedStreamsModel_add_0 : decode b_SlippedStreamsModel_add 0 = .ok (.aload_n 0, 1) := by decide +kernel
theorem d_SlippedStreamsModel_add_1 : decode b_SlippedStreamsModel_add 1 = .ok (.getfield 62, 3) := by decide +kernel
theorem d_SlippedStreamsModel_add_4 : decode b_SlippedStreamsModel_add 4 = .ok (.bipush 24, 2) := by decide +kernel
theorem d_SlippedStreamsModel_add_6 : decode b_SlippedStreamsModel_add 6 = .ok (.if_icmp .ge 24, 3) := by decide +kernel
theorem d_SlippedStreamsModel_add_9 : decode b_SlippedStreamsModel_add 9 = .ok (.iload_n 1, 1) := by decide +kernel
theorem d_SlippedStreamsModel_add_10 : decode b_SlippedStreamsModel_add 10 = .ok (.ifCond .lt 20, 3) := by decide +kernel
theorem d_SlippedStreamsModel_add_13 : decode b_SlippedStreamsModel_add 13 = .ok (.iload_n 1, 1) := by decide +kernel
theorem d_SlippedStreamsModel_add_14 : decode b_SlippedStreamsModel_add 14 = .ok (.bipush 9, 2) := by decide +kernel
theorem d_SlippedStreamsModel_add_16 : decode b_SlippedStreamsModel_add 16 = .ok (.if_icmp .ge 14, 3) := by decide +kernel
theorem d_SlippedStreamsModel_add_19 : decode b_SlippedStreamsModel_add 19 = .ok (.iload_n 2, 1) := by decide +kernel
theorem d_SlippedStreamsModel_add_20 : decode b_SlippedStreamsModel_add 20 = .ok (.invokestatic 66, 3) := by decide +kernel
theorem d_SlippedStreamsModel_add_23 : decode b_SlippedStreamsModel_add 23 = .ok (.ifCond .eq 7, 3) := by decide +kernel
theorem d_SlippedStreamsModel_add_26 : decode b_SlippedStreamsModel_add 26 = .ok (.iconst 1, 1) := by decide +kernel
theorem d_SlippedStreamsModel_add_27 : decode b_SlippedStreamsModel_add 27 = .ok (.goto 4, 3) := by decide +kernel
theorem d_SlippedStreamsModel_add_30 : decode b_SlippedStreamsModel_add 30 = .ok (.iconst 0, 1) := by decide +kernel
theorem d_SlippedStreamsModel_add_31 : decode b_SlippedStreamsModel_add 31 = .ok (.istore 5, 2) := by decide +kernel
theorem d_SlippedStreamsModel_add_33 : decode b_SlippedStreamsModel_add 33 = .ok (.iload 5, 2) := by decide +kernel
theorem d_SlippedStreamsModel_add_35 : decode b_SlippedStreamsModel_add 35 = .ok (.ifCond .eq 24, 3) := by decide +kernel
theorem d_SlippedStreamsModel_add_38 : decode b_SlippedStreamsModel_add 38 = .ok (.iload_n 1, 1) := by decide +kernel
theorem d_SlippedStreamsModel_add_39 : decode b_SlippedStreamsModel_add 39 = .ok (.ifCond .eq 16, 3) := by decide +kernel
theorem d_SlippedStreamsModel_add_42 : decode b_SlippedStreamsModel_add 42 = .ok (.iload_n 1, 1) := by decide +kernel
theorem d_SlippedStreamsModel_add_43 : decode b_SlippedStreamsModel_add 43 = .ok (.bipush 8, 2) := by decide +kernel
theorem d_SlippedStreamsModel_add_45 : decode b_SlippedStreamsModel_add 45 = .ok (.if_icmp .eq 10, 3) := by decide +kernel
theorem d_SlippedStreamsModel_add_48 : decode b_SlippedStreamsModel_add 48 = .ok (.iload_n 3, 1) := by decide +kernel
theorem d_SlippedStreamsModel_add_49 : decode b_SlippedStreamsModel_add 49 = .ok (.invokestatic 66, 3) := by decide +kernel
theorem d_SlippedStreamsModel_add_52 : decode b_SlippedStreamsModel_add 52 = .ok (.ifCond .eq 7, 3) := by decide +kernel
theorem d_SlippedStreamsModel_add_55 : decode b_SlippedStreamsModel_add 55 = .ok (.iconst 1, 1) := by decide +kernel
theorem d_SlippedStreamsModel_add_56 : decode b_SlippedStreamsModel_add 56 = .ok (.goto 4, 3) := by decide +kernel
theorem d_SlippedStreamsModel_add_59 : decode b_SlippedStreamsModel_add 59 = .ok (.iconst 0, 1) := by decide +kernel
theorem d_SlippedStreamsModel_add_60 : decode b_SlippedStreamsModel_add 60 = .ok (.istore 5, 2) := by decide +kernel
theorem d_SlippedStreamsModel_add_62 : decode b_SlippedStreamsModel_add 62 = .ok (.iload 5, 2) := by decide +kernel
theorem d_SlippedStreamsModel_add_64 : decode b_SlippedStreamsModel_add 64 = .ok (.ifCond .eq 49, 3) := by decide +kernel
theorem d_SlippedStreamsModel_add_67 : decode b_SlippedStreamsModel_add 67 = .ok (.iload_n 1, 1) := by decide +kernel
theorem d_SlippedStreamsModel_add_68 : decode b_SlippedStreamsModel_add 68 = .ok (.iconst 1, 1) := by decide +kernel
theorem d_SlippedStreamsModel_add_69 : decode b_SlippedStreamsModel_add 69 = .ok (.if_icmp .lt 16, 3) := by decide +kernel
theorem d_SlippedStreamsModel_add_72 : decode b_SlippedStreamsModel_add 72 = .ok (.iload_n 1, 1) := by decide +kernel
theorem d_SlippedStreamsModel_add_73 : decode b_SlippedStreamsModel_add 73 = .ok (.iconst 3, 1) := by decide +kernel
theorem d_SlippedStreamsModel_add_74 : decode b_SlippedStreamsModel_add 74 = .ok (.if_icmp .gt 11, 3) := by decide +kernel
theorem d_SlippedStreamsModel_add_77 : decode b_SlippedStreamsModel_add 77 = .ok (.iload 4, 2) := by decide +kernel
theorem d_SlippedStreamsModel_add_79 : decode b_SlippedStreamsModel_add 79 = .ok (.invokestatic 66, 3) := by decide +kernel
theorem d_SlippedStreamsModel_add_82 : decode b_SlippedStreamsModel_add 82 = .ok (.ifCond .eq 31, 3) := by decide +kernel
theorem d_SlippedStreamsModel_add_85 : decode b_SlippedStreamsModel_add 85 = .ok (.iload_n 1, 1) := by decide +kernel
theorem d_SlippedStreamsModel_add_86 : decode b_SlippedStreamsModel_add 86 = .ok (.bipush 6, 2) := by decide +kernel
theorem d_SlippedStreamsModel_add_88 : decode b_SlippedStreamsModel_add 88 = .ok (.if_icmp .eq 9, 3) := by decide +kernel
theorem d_SlippedStreamsModel_add_91 : decode b_SlippedStreamsModel_add 91 = .ok (.iload_n 1, 1) := by decide +kernel
theorem d_SlippedStreamsModel_add_92 : decode b_SlippedStreamsModel_add 92 = .ok (.bipush 7, 2) := by decide +kernel
theorem d_SlippedStreamsModel_add_94 : decode b_SlippedStreamsModel_add 94 = .ok (.if_icmp .ne 15, 3) := by decide +kernel
theorem d_SlippedStreamsModel_add_97 : decode b_SlippedStreamsModel_add 97 = .ok (.iload 4, 2) := by decide +kernel
theorem d_SlippedStreamsModel_add_99 : decode b_SlippedStreamsModel_add 99 = .ok (.ifCond .lt 14, 3) := by decide +kernel
theorem d_SlippedStreamsModel_add_102 : decode b_SlippedStreamsModel_add 102 = .ok (.iload 4, 2) := by decide +kernel
theorem d_SlippedStreamsModel_add_104 : decode b_SlippedStreamsModel_add 104 = .ok (.bipush 24, 2) := by decide +kernel
theorem d_SlippedStreamsModel_add_106 : decode b_SlippedStreamsModel_add 106 = .ok (.if_icmp .gt 7, 3) := by decide +kernel
theorem d_SlippedStreamsModel_add_109 : decode b_SlippedStreamsModel_add 109 = .ok (.iconst 1, 1) := by decide +kernel
theorem d_SlippedStreamsModel_add_110 : decode b_SlippedStreamsModel_add 110 = .ok (.goto 4, 3) := by decide +kernel
theorem d_SlippedStreamsModel_add_113 : decode b_SlippedStreamsModel_add 113 = .ok (.iconst 0, 1) := by decide +kernel
theorem d_SlippedStreamsModel_add_114 : decode b_SlippedStreamsModel_add 114 = .ok (.istore 5, 2) := by decide +kernel
theorem d_SlippedStreamsModel_add_116 : decode b_SlippedStreamsModel_add 116 = .ok (.iload 5, 2) := by decide +kernel
theorem d_SlippedStreamsModel_add_118 : decode b_SlippedStreamsModel_add 118 = .ok (.ifCond .ne 5, 3) := by decide +kernel
theorem d_SlippedStreamsModel_add_121 : decode b_SlippedStreamsModel_add 121 = .ok (.iconst (-1), 1) := by decide +kernel
theorem d_SlippedStreamsModel_add_122 : decode b_SlippedStreamsModel_add 122 = .ok (.ireturn, 1) := by decide +kernel
theorem d_SlippedStreamsModel_add_123 : decode b_SlippedStreamsModel_add 123 = .ok (.aload_n 0, 1) := by decide +kernel
theorem d_SlippedStreamsModel_add_124 : decode b_SlippedStreamsModel_add 124 = .ok (.getfield 7, 3) := by decide +kernel
theorem d_SlippedStreamsModel_add_127 : decode b_SlippedStreamsModel_add 127 = .ok (.aload_n 0, 1) := by decide +kernel
theorem d_SlippedStreamsModel_add_128 : decode b_SlippedStreamsModel_add 128 = .ok (.getfield 62, 3) := by decide +kernel
theorem d_SlippedStreamsModel_add_131 : decode b_SlippedStreamsModel_add 131 = .ok (.iload_n 1, 1) := by decide +kernel
theorem d_SlippedStreamsModel_add_132 : decode b_SlippedStreamsModel_add 132 = .ok (.iastore, 1) := by decide +kernel
theorem d_SlippedStreamsModel_add_133 : decode b_SlippedStreamsModel_add 133 = .ok (.aload_n 0, 1) := by decide +kernel
theorem d_SlippedStreamsModel_add_134 : decode b_SlippedStreamsModel_add 134 = .ok (.getfield 13, 3) := by decide +kernel
theorem d_SlippedStreamsModel_add_137 : decode b_SlippedStreamsModel_add 137 = .ok (.aload_n 0, 1) := by decide +kernel
theorem d_SlippedStreamsModel_add_138 : decode b_SlippedStreamsModel_add 138 = .ok (.getfield 62, 3) := by decide +kernel
theorem d_SlippedStreamsModel_add_141 : decode b_SlippedStreamsModel_add 141 = .ok (.iload_n 2, 1) := by decide +kernel
theorem d_SlippedStreamsModel_add_142 : decode b_SlippedStreamsModel_add 142 = .ok (.iastore, 1) := by decide +kernel
theorem d_SlippedStreamsModel_add_143 : decode b_SlippedStreamsModel_add 143 = .ok (.aload_n 0, 1) := by decide +kernel
theorem d_SlippedStreamsModel_add_144 : decode b_SlippedStreamsModel_add 144 = .ok (.getfield 16, 3) := by decide +kernel
theorem d_SlippedStreamsModel_add_147 : decode b_SlippedStreamsModel_add 147 = .ok (.aload_n 0, 1) := by decide +kernel
theorem d_SlippedStreamsModel_add_148 : decode b_SlippedStreamsModel_add 148 = .ok (.getfield 62, 3) := by decide +kernel
theorem d_SlippedStreamsModel_add_151 : decode b_SlippedStreamsModel_add 151 = .ok (.iload_n 3, 1) := by decide +kernel
theorem d_SlippedStreamsModel_add_152 : decode b_SlippedStreamsModel_add 152 = .ok (.iastore, 1) := by decide +kernel
theorem d_SlippedStreamsModel_add_153 : decode b_SlippedStreamsModel_add 153 = .ok (.aload_n 0, 1) := by decide +kernel
theorem d_SlippedStreamsModel_add_154 : decode b_SlippedStreamsModel_add 154 = .ok (.getfield 19, 3) := by decide +kernel
theorem d_SlippedStreamsModel_add_157 : decode b_SlippedStreamsModel_add 157 = .ok (.aload_n 0, 1) := by decide +kernel
theorem d_SlippedStreamsModel_add_158 : decode b_SlippedStreamsModel_add 158 = .ok (.getfield 62, 3) := by decide +kernel
theorem d_SlippedStreamsModel_add_161 : decode b_SlippedStreamsModel_add 161 = .ok (.iload 4, 2) := by decide +kernel
theorem d_SlippedStreamsModel_add_163 : decode b_SlippedStreamsModel_add 163 = .ok (.iastore, 1) := by decide +kernel
theorem d_SlippedStreamsModel_add_164 : decode b_SlippedStreamsModel_add 164 = .ok (.aload_n 0, 1) := by decide +kernel
theorem d_SlippedStreamsModel_add_165 : decode b_SlippedStreamsModel_add 165 = .ok (.aload_n 0, 1) := by decide +kernel
theorem d_SlippedStreamsModel_add_166 : decode b_SlippedStreamsModel_add 166 = .ok (.getfield 62, 3) := by decide +kernel
theorem d_SlippedStreamsModel_add_169 : decode b_SlippedStreamsModel_add 169 = .ok (.iconst 1, 1) := by decide +kernel
theorem d_SlippedStreamsModel_add_170 : decode b_SlippedStreamsModel_add 170 = .ok (.iadd, 1) := by decide +kernel
theorem d_SlippedStreamsModel_add_171 : decode b_SlippedStreamsModel_add 171 = .ok (.putfield 62, 3) := by decide +kernel
theorem d_SlippedStreamsModel_add_174 : decode b_SlippedStreamsModel_add 174 = .ok (.aload_n 0, 1) := by decide +kernel
theorem d_SlippedStreamsModel_add_175 : decode b_SlippedStreamsModel_add 175 = .ok (.invokevirtual 70, 3) := by decide +kernel
theorem d_SlippedStreamsModel_add_178 : decode b_SlippedStreamsModel_add 178 = .ok (.aload_n 0, 1) := by decide +kernel
theorem d_SlippedStreamsModel_add_179 : decode b_SlippedStreamsModel_add 179 = .ok (.invokevirtual 73, 3) := by decide +kernel
theorem d_SlippedStreamsModel_add_182 : decode b_SlippedStreamsModel_add 182 = .ok (.aload_n 0, 1) := by decide +kernel
theorem d_SlippedStreamsModel_add_183 : decode b_SlippedStreamsModel_add 183 = .ok (.getfield 62, 3) := by decide +kernel
theorem d_SlippedStreamsModel_add_186 : decode b_SlippedStreamsModel_add 186 = .ok (.iconst 1, 1) := by decide +kernel
theorem d_SlippedStreamsModel_add_187 : decode b_SlippedStreamsModel_add 187 = .ok (.isub, 1) := by decide +kernel
theorem d_SlippedStreamsModel_add_188 : decode b_SlippedStreamsModel_add 188 = .ok (.ireturn, 1) := by decide +kernel
theorem d_SlippedStreamsModel_fill_0 : decode b_SlippedStreamsModel_fill 0 = .ok (.aload_n 0, 1) := by decide +kernel
theorem d_SlippedStreamsModel_fill_1 : decode b_SlippedStreamsModel_fill 1 = .ok (.iload_n 1, 1) := by decide +kernel
theorem d_SlippedStreamsModel_fill_2 : decode b_SlippedStreamsModel_fill 2 = .ok (.putfield 76, 3) := by decide +kernel
theorem d_SlippedStreamsModel_fill_5 : decode b_SlippedStreamsModel_fill 5 = .ok (.aload_n 0, 1) := by decide +kernel
theorem d_SlippedStreamsModel_fill_6 : decode b_SlippedStreamsModel_fill 6 = .ok (.iload_n 2, 1) := by decide +kernel
theorem d_SlippedStreamsModel_fill_7 : decode b_SlippedStreamsModel_fill 7 = .ok (.putfield 79, 3) := by decide +kernel
theorem d_SlippedStreamsModel_fill_10 : decode b_SlippedStreamsModel_fill 10 = .ok (.aload_n 0, 1) := by decide +kernel
theorem d_SlippedStreamsModel_fill_11 : decode b_SlippedStreamsModel_fill 11 = .ok (.invokevirtual 73, 3) := by decide +kernel
theorem d_SlippedStreamsModel_fill_14 : decode b_SlippedStreamsModel_fill 14 = .ok (.return_, 1) := by decide +kernel
theorem d_SlippedStreamsModel_clear_0 : decode b_SlippedStreamsModel_clear 0 = .ok (.aload_n 0, 1) := by decide +kernel
theorem d_SlippedStreamsModel_clear_1 : decode b_SlippedStreamsModel_clear 1 = .ok (.getfield 62, 3) := by decide +kernel
theorem d_SlippedStreamsModel_clear_4 : decode b_SlippedStreamsModel_clear 4 = .ok (.istore_n 1, 1) := by decide +kernel
theorem d_SlippedStreamsModel_clear_5 : decode b_SlippedStreamsModel_clear 5 = .ok (.aload_n 0, 1) := by decide +kernel
theorem d_SlippedStreamsModel_clear_6 : decode b_SlippedStreamsModel_clear 6 = .ok (.iconst 0, 1) := by decide +kernel
theorem d_SlippedStreamsModel_clear_7 : decode b_SlippedStreamsModel_clear 7 = .ok (.putfield 62, 3) := by decide +kernel
theorem d_SlippedStreamsModel_clear_10 : decode b_SlippedStreamsModel_clear 10 = .ok (.aload_n 0, 1) := by decide +kernel
theorem d_SlippedStreamsModel_clear_11 : decode b_SlippedStreamsModel_clear 11 = .ok (.invokevirtual 70, 3) := by decide +kernel
theorem d_SlippedStreamsModel_clear_14 : decode b_SlippedStreamsModel_clear 14 = .ok (.aload_n 0, 1) := by decide +kernel
theorem d_SlippedStreamsModel_clear_15 : decode b_SlippedStreamsModel_clear 15 = .ok (.invokevirtual 73, 3) := by decide +kernel
theorem d_SlippedStreamsModel_clear_18 : decode b_SlippedStreamsModel_clear 18 = .ok (.iload_n 1, 1) := by decide +kernel
theorem d_SlippedStreamsModel_clear_19 : decode b_SlippedStreamsModel_clear 19 = .ok (.ireturn, 1) := by decide +kernel
theorem d_SlippedStreamsModel_streamOf_0 : decode b_SlippedStreamsModel_streamOf 0 = .ok (.iload_n 1, 1) := by decide +kernel
theorem d_SlippedStreamsModel_streamOf_1 : decode b_SlippedStreamsModel_streamOf 1 = .ok (.ifCond .lt 19, 3) := by decide +kernel
theorem d_SlippedStreamsModel_streamOf_4 : decode b_SlippedStreamsModel_streamOf 4 = .ok (.iload_n 1, 1) := by decide +kernel
theorem d_SlippedStreamsModel_streamOf_5 : decode b_SlippedStreamsModel_streamOf 5 = .ok (.aload_n 0, 1) := by decide +kernel
theorem d_SlippedStreamsModel_streamOf_6 : decode b_SlippedStreamsModel_streamOf 6 = .ok (.getfield 62, 3) := by decide +kernel
theorem d_SlippedStreamsModel_streamOf_9 : decode b_SlippedStreamsModel_streamOf 9 = .ok (.if_icmp .ge 11, 3) := by decide +kernel
theorem d_SlippedStreamsModel_streamOf_12 : decode b_SlippedStreamsModel_streamOf 12 = .ok (.aload_n 0, 1) := by decide +kernel
theorem d_SlippedStreamsModel_streamOf_13 : decode b_SlippedStreamsModel_streamOf 13 = .ok (.iload_n 1, 1) := by decide +kernel
theorem d_SlippedStreamsModel_streamOf_14 : decode b_SlippedStreamsModel_streamOf 14 = .ok (.invokevirtual 118, 3) := by decide +kernel
theorem d_SlippedStreamsModel_streamOf_17 : decode b_SlippedStreamsModel_streamOf 17 = .ok (.goto 4, 3) := by decide +kernel
theorem d_SlippedStreamsModel_streamOf_20 : decode b_SlippedStreamsModel_streamOf 20 = .ok (.iconst (-1), 1) := by decide +kernel
theorem d_SlippedStreamsModel_streamOf_21 : decode b_SlippedStreamsModel_streamOf 21 = .ok (.ireturn, 1) := by decide +kernel
theorem d_SlippedStreamsModel_addressRegisters_0 : decode b_SlippedStreamsModel_addressRegisters 0 = .ok (.iconst 0, 1) := by decide +kernel
theorem d_SlippedStreamsModel_addressRegisters_1 : decode b_SlippedStreamsModel_addressRegisters 1 = .ok (.istore_n 1, 1) := by decide +kernel
theorem d_SlippedStreamsModel_addressRegisters_2 : decode b_SlippedStreamsModel_addressRegisters 2 = .ok (.iconst 0, 1) := by decide +kernel
theorem d_SlippedStreamsModel_addressRegisters_3 : decode b_SlippedStreamsModel_addressRegisters 3 = .ok (.istore_n 2, 1) := by decide +kernel
theorem d_SlippedStreamsModel_addressRegisters_4 : decode b_SlippedStreamsModel_addressRegisters 4 = .ok (.iload_n 2, 1) := by decide +kernel
theorem d_SlippedStreamsModel_addressRegisters_5 : decode b_SlippedStreamsModel_addressRegisters 5 = .ok (.bipush 8, 2) := by decide +kernel
theorem d_SlippedStreamsModel_addressRegisters_7 : decode b_SlippedStreamsModel_addressRegisters 7 = .ok (.if_icmp .ge 26, 3) := by decide +kernel
theorem d_SlippedStreamsModel_addressRegisters_10 : decode b_SlippedStreamsModel_addressRegisters 10 = .ok (.aload_n 0, 1) := by decide +kernel
theorem d_SlippedStreamsModel_addressRegisters_11 : decode b_SlippedStreamsModel_addressRegisters 11 = .ok (.getfield 22, 3) := by decide +kernel
theorem d_SlippedStreamsModel_addressRegisters_14 : decode b_SlippedStreamsModel_addressRegisters 14 = .ok (.iload_n 2, 1) := by decide +kernel
theorem d_SlippedStreamsModel_addressRegisters_15 : decode b_SlippedStreamsModel_addressRegisters 15 = .ok (.baload, 1) := by decide +kernel
theorem d_SlippedStreamsModel_addressRegisters_16 : decode b_SlippedStreamsModel_addressRegisters 16 = .ok (.ifCond .eq 9, 3) := by decide +kernel
theorem d_SlippedStreamsModel_addressRegisters_19 : decode b_SlippedStreamsModel_addressRegisters 19 = .ok (.iload_n 1, 1) := by decide +kernel
theorem d_SlippedStreamsModel_addressRegisters_20 : decode b_SlippedStreamsModel_addressRegisters 20 = .ok (.iconst 1, 1) := by decide +kernel
theorem d_SlippedStreamsModel_addressRegisters_21 : decode b_SlippedStreamsModel_addressRegisters 21 = .ok (.iadd, 1) := by decide +kernel
theorem d_SlippedStreamsModel_addressRegisters_22 : decode b_SlippedStreamsModel_addressRegisters 22 = .ok (.goto 4, 3) := by decide +kernel
theorem d_SlippedStreamsModel_addressRegisters_25 : decode b_SlippedStreamsModel_addressRegisters 25 = .ok (.iload_n 1, 1) := by decide +kernel
theorem d_SlippedStreamsModel_addressRegisters_26 : decode b_SlippedStreamsModel_addressRegisters 26 = .ok (.istore_n 1, 1) := by decide +kernel
theorem d_SlippedStreamsModel_addressRegisters_27 : decode b_SlippedStreamsModel_addressRegisters 27 = .ok (.iinc 2 1, 3) := by decide +kernel
theorem d_SlippedStreamsModel_addressRegisters_30 : decode b_SlippedStreamsModel_addressRegisters 30 = .ok (.goto (-26), 3) := by decide +kernel
theorem d_SlippedStreamsModel_addressRegisters_33 : decode b_SlippedStreamsModel_addressRegisters 33 = .ok (.iload_n 1, 1) := by decide +kernel
theorem d_SlippedStreamsModel_addressRegisters_34 : decode b_SlippedStreamsModel_addressRegisters 34 = .ok (.ireturn, 1) := by decide +kernel
theorem d_SlippedStreamsModel_isCount_0 : decode b_SlippedStreamsModel_isCount 0 = .ok (.iload_n 0, 1) := by decide +kernel
theorem d_SlippedStreamsModel_isCount_1 : decode b_SlippedStreamsModel_isCount 1 = .ok (.ifCond .le 13, 3) := by decide +kernel
theorem d_SlippedStreamsModel_isCount_4 : decode b_SlippedStreamsModel_isCount 4 = .ok (.iload_n 0, 1) := by decide +kernel
theorem d_SlippedStreamsModel_isCount_5 : decode b_SlippedStreamsModel_isCount 5 = .ok (.bipush 50, 2) := by decide +kernel
theorem d_SlippedStreamsModel_isCount_7 : decode b_SlippedStreamsModel_isCount 7 = .ok (.if_icmp .gt 7, 3) := by decide +kernel
theorem d_SlippedStreamsModel_isCount_10 : decode b_SlippedStreamsModel_isCount 10 = .ok (.iconst 1, 1) := by decide +kernel
theorem d_SlippedStreamsModel_isCount_11 : decode b_SlippedStreamsModel_isCount 11 = .ok (.goto 4, 3) := by decide +kernel
theorem d_SlippedStreamsModel_isCount_14 : decode b_SlippedStreamsModel_isCount 14 = .ok (.iconst 0, 1) := by decide +kernel
theorem d_SlippedStreamsModel_isCount_15 : decode b_SlippedStreamsModel_isCount 15 = .ok (.ireturn, 1) := by decide +kernel
theorem d_SlippedStreamsModel_leave_0 : decode b_SlippedStreamsModel_leave 0 = .ok (.aload_n 0, 1) := by decide +kernel
theorem d_SlippedStreamsModel_leave_1 : decode b_SlippedStreamsModel_leave 1 = .ok (.getfield 29, 3) := by decide +kernel
theorem d_SlippedStreamsModel_leave_4 : decode b_SlippedStreamsModel_leave 4 = .ok (.iload_n 1, 1) := by decide +kernel
theorem d_SlippedStreamsModel_leave_5 : decode b_SlippedStreamsModel_leave 5 = .ok (.iload_n 2, 1) := by decide +kernel
theorem d_SlippedStreamsModel_leave_6 : decode b_SlippedStreamsModel_leave 6 = .ok (.iastore, 1) := by decide +kernel
theorem d_SlippedStreamsModel_leave_7 : decode b_SlippedStreamsModel_leave 7 = .ok (.aload_n 0, 1) := by decide +kernel
theorem d_SlippedStreamsModel_leave_8 : decode b_SlippedStreamsModel_leave 8 = .ok (.getfield 32, 3) := by decide +kernel
theorem d_SlippedStreamsModel_leave_11 : decode b_SlippedStreamsModel_leave 11 = .ok (.iload_n 1, 1) := by decide +kernel
theorem d_SlippedStreamsModel_leave_12 : decode b_SlippedStreamsModel_leave 12 = .ok (.aload_n 0, 1) := by decide +kernel
theorem d_SlippedStreamsModel_leave_13 : decode b_SlippedStreamsModel_leave 13 = .ok (.getfield 32, 3) := by decide +kernel
theorem d_SlippedStreamsModel_leave_16 : decode b_SlippedStreamsModel_leave 16 = .ok (.iload_n 1, 1) := by decide +kernel
theorem d_SlippedStreamsModel_leave_17 : decode b_SlippedStreamsModel_leave 17 = .ok (.iaload, 1) := by decide +kernel
theorem d_SlippedStreamsModel_leave_18 : decode b_SlippedStreamsModel_leave 18 = .ok (.iconst 1, 1) := by decide +kernel
theorem d_SlippedStreamsModel_leave_19 : decode b_SlippedStreamsModel_leave 19 = .ok (.iadd, 1) := by decide +kernel
theorem d_SlippedStreamsModel_leave_20 : decode b_SlippedStreamsModel_leave 20 = .ok (.iastore, 1) := by decide +kernel
theorem d_SlippedStreamsModel_leave_21 : decode b_SlippedStreamsModel_leave 21 = .ok (.aload_n 0, 1) := by decide +kernel
theorem d_SlippedStreamsModel_leave_22 : decode b_SlippedStreamsModel_leave 22 = .ok (.iload_n 1, 1) := by decide +kernel
theorem d_SlippedStreamsModel_leave_23 : decode b_SlippedStreamsModel_leave 23 = .ok (.invokevirtual 101, 3) := by decide +kernel
theorem d_SlippedStreamsModel_leave_26 : decode b_SlippedStreamsModel_leave 26 = .ok (.return_, 1) := by decide +kernel
theorem d_SlippedStreamsModel_put_0 : decode b_SlippedStreamsModel_put 0 = .ok (.aload_n 0, 1) := by decide +kernel
theorem d_SlippedStreamsModel_put_1 : decode b_SlippedStreamsModel_put 1 = .ok (.getfield 38, 3) := by decide +kernel
theorem d_SlippedStreamsModel_put_4 : decode b_SlippedStreamsModel_put 4 = .ok (.bipush 6, 2) := by decide +kernel
theorem d_SlippedStreamsModel_put_6 : decode b_SlippedStreamsModel_put 6 = .ok (.iload_n 1, 1) := by decide +kernel
theorem d_SlippedStreamsModel_put_7 : decode b_SlippedStreamsModel_put 7 = .ok (.imul, 1) := by decide +kernel
theorem d_SlippedStreamsModel_put_8 : decode b_SlippedStreamsModel_put 8 = .ok (.aload_n 0, 1) := by decide +kernel
theorem d_SlippedStreamsModel_put_9 : decode b_SlippedStreamsModel_put 9 = .ok (.getfield 41, 3) := by decide +kernel
theorem d_SlippedStreamsModel_put_12 : decode b_SlippedStreamsModel_put 12 = .ok (.iload_n 1, 1) := by decide +kernel
theorem d_SlippedStreamsModel_put_13 : decode b_SlippedStreamsModel_put 13 = .ok (.iaload, 1) := by decide +kernel
theorem d_SlippedStreamsModel_put_14 : decode b_SlippedStreamsModel_put 14 = .ok (.iadd, 1) := by decide +kernel
theorem d_SlippedStreamsModel_put_15 : decode b_SlippedStreamsModel_put 15 = .ok (.iload_n 2, 1) := by decide +kernel
theorem d_SlippedStreamsModel_put_16 : decode b_SlippedStreamsModel_put 16 = .ok (.iastore, 1) := by decide +kernel
theorem d_SlippedStreamsModel_put_17 : decode b_SlippedStreamsModel_put 17 = .ok (.aload_n 0, 1) := by decide +kernel
theorem d_SlippedStreamsModel_put_18 : decode b_SlippedStreamsModel_put 18 = .ok (.getfield 41, 3) := by decide +kernel
theorem d_SlippedStreamsModel_put_21 : decode b_SlippedStreamsModel_put 21 = .ok (.iload_n 1, 1) := by decide +kernel
theorem d_SlippedStreamsModel_put_22 : decode b_SlippedStreamsModel_put 22 = .ok (.aload_n 0, 1) := by decide +kernel
theorem d_SlippedStreamsModel_put_23 : decode b_SlippedStreamsModel_put 23 = .ok (.getfield 41, 3) := by decide +kernel
theorem d_SlippedStreamsModel_put_26 : decode b_SlippedStreamsModel_put 26 = .ok (.iload_n 1, 1) := by decide +kernel
theorem d_SlippedStreamsModel_put_27 : decode b_SlippedStreamsModel_put 27 = .ok (.iaload, 1) := by decide +kernel
theorem d_SlippedStreamsModel_put_28 : decode b_SlippedStreamsModel_put 28 = .ok (.iconst 1, 1) := by decide +kernel
theorem d_SlippedStreamsModel_put_29 : decode b_SlippedStreamsModel_put 29 = .ok (.iadd, 1) := by decide +kernel
theorem d_SlippedStreamsModel_put_30 : decode b_SlippedStreamsModel_put 30 = .ok (.iastore, 1) := by decide +kernel
theorem d_SlippedStreamsModel_put_31 : decode b_SlippedStreamsModel_put 31 = .ok (.return_, 1) := by decide +kernel
theorem d_SlippedStreamsModel_reckon_0 : decode b_SlippedStreamsModel_reckon 0 = .ok (.iload_n 0, 1) := by decide +kernel
theorem d_SlippedStreamsModel_reckon_1 : decode b_SlippedStreamsModel_reckon 1 = .ok (.iconst 1, 1) := by decide +kernel
theorem d_SlippedStreamsModel_reckon_2 : decode b_SlippedStreamsModel_reckon 2 = .ok (.if_icmp .ne 9, 3) := by decide +kernel
theorem d_SlippedStreamsModel_reckon_5 : decode b_SlippedStreamsModel_reckon 5 = .ok (.iload_n 1, 1) := by decide +kernel
theorem d_SlippedStreamsModel_reckon_6 : decode b_SlippedStreamsModel_reckon 6 = .ok (.iload_n 2, 1) := by decide +kernel
theorem d_SlippedStreamsModel_reckon_7 : decode b_SlippedStreamsModel_reckon 7 = .ok (.iadd, 1) := by decide +kernel
theorem d_SlippedStreamsModel_reckon_8 : decode b_SlippedStreamsModel_reckon 8 = .ok (.goto 17, 3) := by decide +kernel
theorem d_SlippedStreamsModel_reckon_11 : decode b_SlippedStreamsModel_reckon 11 = .ok (.iload_n 0, 1) := by decide +kernel
theorem d_SlippedStreamsModel_reckon_12 : decode b_SlippedStreamsModel_reckon 12 = .ok (.iconst 2, 1) := by decide +kernel
theorem d_SlippedStreamsModel_reckon_13 : decode b_SlippedStreamsModel_reckon 13 = .ok (.if_icmp .ne 9, 3) := by decide +kernel
theorem d_SlippedStreamsModel_reckon_16 : decode b_SlippedStreamsModel_reckon 16 = .ok (.iload_n 1, 1) := by decide +kernel
theorem d_SlippedStreamsModel_reckon_17 : decode b_SlippedStreamsModel_reckon 17 = .ok (.iload_n 2, 1) := by decide +kernel
theorem d_SlippedStreamsModel_reckon_18 : decode b_SlippedStreamsModel_reckon 18 = .ok (.isub, 1) := by decide +kernel
theorem d_SlippedStreamsModel_reckon_19 : decode b_SlippedStreamsModel_reckon 19 = .ok (.goto 6, 3) := by decide +kernel
theorem d_SlippedStreamsModel_reckon_22 : decode b_SlippedStreamsModel_reckon 22 = .ok (.iload_n 1, 1) := by decide +kernel
theorem d_SlippedStreamsModel_reckon_23 : decode b_SlippedStreamsModel_reckon 23 = .ok (.iload_n 2, 1) := by decide +kernel
theorem d_SlippedStreamsModel_reckon_24 : decode b_SlippedStreamsModel_reckon 24 = .ok (.imul, 1) := by decide +kernel
theorem d_SlippedStreamsModel_reckon_25 : decode b_SlippedStreamsModel_reckon 25 = .ok (.ireturn, 1) := by decide +kernel
theorem d_SlippedStreamsModel_hasRoom_0 : decode b_SlippedStreamsModel_hasRoom 0 = .ok (.aload_n 0, 1) := by decide +kernel
theorem d_SlippedStreamsModel_hasRoom_1 : decode b_SlippedStreamsModel_hasRoom 1 = .ok (.getfield 41, 3) := by decide +kernel
theorem d_SlippedStreamsModel_hasRoom_4 : decode b_SlippedStreamsModel_hasRoom 4 = .ok (.iload_n 1, 1) := by decide +kernel
theorem d_SlippedStreamsModel_hasRoom_5 : decode b_SlippedStreamsModel_hasRoom 5 = .ok (.iaload, 1) := by decide +kernel
theorem d_SlippedStreamsModel_hasRoom_6 : decode b_SlippedStreamsModel_hasRoom 6 = .ok (.iload_n 2, 1) := by decide +kernel
theorem d_SlippedStreamsModel_hasRoom_7 : decode b_SlippedStreamsModel_hasRoom 7 = .ok (.iadd, 1) := by decide +kernel
theorem d_SlippedStreamsModel_hasRoom_8 : decode b_SlippedStreamsModel_hasRoom 8 = .ok (.iload_n 1, 1) := by decide +kernel
theorem d_SlippedStreamsModel_hasRoom_9 : decode b_SlippedStreamsModel_hasRoom 9 = .ok (.iconst 4, 1) := by decide +kernel
theorem d_SlippedStreamsModel_hasRoom_10 : decode b_SlippedStreamsModel_hasRoom 10 = .ok (.if_icmp .ne 8, 3) := by decide +kernel
theorem d_SlippedStreamsModel_hasRoom_13 : decode b_SlippedStreamsModel_hasRoom 13 = .ok (.bipush 6, 2) := by decide +kernel
theorem d_SlippedStreamsModel_hasRoom_15 : decode b_SlippedStreamsModel_hasRoom 15 = .ok (.goto 4, 3) := by decide +kernel
theorem d_SlippedStreamsModel_hasRoom_18 : decode b_SlippedStreamsModel_hasRoom 18 = .ok (.iconst 4, 1) := by decide +kernel
theorem d_SlippedStreamsModel_hasRoom_19 : decode b_SlippedStreamsModel_hasRoom 19 = .ok (.if_icmp .gt 7, 3) := by decide +kernel
theorem d_SlippedStreamsModel_hasRoom_22 : decode b_SlippedStreamsModel_hasRoom 22 = .ok (.iconst 1, 1) := by decide +kernel
theorem d_SlippedStreamsModel_hasRoom_23 : decode b_SlippedStreamsModel_hasRoom 23 = .ok (.goto 4, 3) := by decide +kernel
theorem d_SlippedStreamsModel_hasRoom_26 : decode b_SlippedStreamsModel_hasRoom 26 = .ok (.iconst 0, 1) := by decide +kernel
theorem d_SlippedStreamsModel_hasRoom_27 : decode b_SlippedStreamsModel_hasRoom 27 = .ok (.ireturn, 1) := by decide +kernel
theorem d_SlippedStreamsModel_holds_0 : decode b_SlippedStreamsModel_holds 0 = .ok (.iload_n 0, 1) := by decide +kernel
theorem d_SlippedStreamsModel_holds_1 : decode b_SlippedStreamsModel_holds 1 = .ok (.bipush 6, 2) := by decide +kernel
theorem d_SlippedStreamsModel_holds_3 : decode b_SlippedStreamsModel_holds 3 = .ok (.if_icmp .ne 16, 3) := by decide +kernel
theorem d_SlippedStreamsModel_holds_6 : decode b_SlippedStreamsModel_holds 6 = .ok (.iload_n 1, 1) := by decide +kernel
theorem d_SlippedStreamsModel_holds_7 : decode b_SlippedStreamsModel_holds 7 = .ok (.iload_n 2, 1) := by decide +kernel
theorem d_SlippedStreamsModel_holds_8 : decode b_SlippedStreamsModel_holds 8 = .ok (.if_icmp .ge 7, 3) := by decide +kernel
theorem d_SlippedStreamsModel_holds_11 : decode b_SlippedStreamsModel_holds 11 = .ok (.iconst 1, 1) := by decide +kernel
theorem d_SlippedStreamsModel_holds_12 : decode b_SlippedStreamsModel_holds 12 = .ok (.goto 17, 3) := by decide +kernel
theorem d_SlippedStreamsModel_holds_15 : decode b_SlippedStreamsModel_holds 15 = .ok (.iconst 0, 1) := by decide +kernel
theorem d_SlippedStreamsModel_holds_16 : decode b_SlippedStreamsModel_holds 16 = .ok (.goto 13, 3) := by decide +kernel
theorem d_SlippedStreamsModel_holds_19 : decode b_SlippedStreamsModel_holds 19 = .ok (.iload_n 1, 1) := by decide +kernel
theorem d_SlippedStreamsModel_holds_20 : decode b_SlippedStreamsModel_holds 20 = .ok (.iload_n 2, 1) := by decide +kernel
theorem d_SlippedStreamsModel_holds_21 : decode b_SlippedStreamsModel_holds 21 = .ok (.if_icmp .eq 7, 3) := by decide +kernel
theorem d_SlippedStreamsModel_holds_24 : decode b_SlippedStreamsModel_holds 24 = .ok (.iconst 1, 1) := by decide +kernel
theorem d_SlippedStreamsModel_holds_25 : decode b_SlippedStreamsModel_holds 25 = .ok (.goto 4, 3) := by decide +kernel
theorem d_SlippedStreamsModel_holds_28 : decode b_SlippedStreamsModel_holds 28 = .ok (.iconst 0, 1) := by decide +kernel
theorem d_SlippedStreamsModel_holds_29 : decode b_SlippedStreamsModel_holds 29 = .ok (.ireturn, 1) := by decide +kernel
theorem d_SlippedStreamsModel_hand_0 : decode b_SlippedStreamsModel_hand 0 = .ok (.iconst 0, 1) := by decide +kernel
theorem d_SlippedStreamsModel_hand_1 : decode b_SlippedStreamsModel_hand 1 = .ok (.istore_n 2, 1) := by decide +kernel
theorem d_SlippedStreamsModel_hand_2 : decode b_SlippedStreamsModel_hand 2 = .ok (.iload_n 2, 1) := by decide +kernel
theorem d_SlippedStreamsModel_hand_3 : decode b_SlippedStreamsModel_hand 3 = .ok (.aload_n 0, 1) := by decide +kernel
theorem d_SlippedStreamsModel_hand_4 : decode b_SlippedStreamsModel_hand 4 = .ok (.iload_n 1, 1) := by decide +kernel
theorem d_SlippedStreamsModel_hand_5 : decode b_SlippedStreamsModel_hand 5 = .ok (.invokevirtual 122, 3) := by decide +kernel
theorem d_SlippedStreamsModel_hand_8 : decode b_SlippedStreamsModel_hand 8 = .ok (.if_icmp .ge 25, 3) := by decide +kernel
theorem d_SlippedStreamsModel_hand_11 : decode b_SlippedStreamsModel_hand 11 = .ok (.aload_n 0, 1) := by decide +kernel
theorem d_SlippedStreamsModel_hand_12 : decode b_SlippedStreamsModel_hand 12 = .ok (.iconst 4, 1) := by decide +kernel
theorem d_SlippedStreamsModel_hand_13 : decode b_SlippedStreamsModel_hand 13 = .ok (.aload_n 0, 1) := by decide +kernel
theorem d_SlippedStreamsModel_hand_14 : decode b_SlippedStreamsModel_hand 14 = .ok (.getfield 26, 3) := by decide +kernel
theorem d_SlippedStreamsModel_hand_17 : decode b_SlippedStreamsModel_hand 17 = .ok (.aload_n 0, 1) := by decide +kernel
theorem d_SlippedStreamsModel_hand_18 : decode b_SlippedStreamsModel_hand 18 = .ok (.iload_n 1, 1) := by decide +kernel
theorem d_SlippedStreamsModel_hand_19 : decode b_SlippedStreamsModel_hand 19 = .ok (.iload_n 2, 1) := by decide +kernel
theorem d_SlippedStreamsModel_hand_20 : decode b_SlippedStreamsModel_hand 20 = .ok (.invokevirtual 112, 3) := by decide +kernel
theorem d_SlippedStreamsModel_hand_23 : decode b_SlippedStreamsModel_hand 23 = .ok (.iaload, 1) := by decide +kernel
theorem d_SlippedStreamsModel_hand_24 : decode b_SlippedStreamsModel_hand 24 = .ok (.invokevirtual 129, 3) := by decide +kernel
theorem d_SlippedStreamsModel_hand_27 : decode b_SlippedStreamsModel_hand 27 = .ok (.iinc 2 1, 3) := by decide +kernel
theorem d_SlippedStreamsModel_hand_30 : decode b_SlippedStreamsModel_hand 30 = .ok (.goto (-28), 3) := by decide +kernel
theorem d_SlippedStreamsModel_hand_33 : decode b_SlippedStreamsModel_hand 33 = .ok (.return_, 1) := by decide +kernel
theorem d_SlippedStreamsModel_take_0 : decode b_SlippedStreamsModel_take 0 = .ok (.aload_n 0, 1) := by decide +kernel
theorem d_SlippedStreamsModel_take_1 : decode b_SlippedStreamsModel_take 1 = .ok (.getfield 38, 3) := by decide +kernel
theorem d_SlippedStreamsModel_take_4 : decode b_SlippedStreamsModel_take 4 = .ok (.bipush 6, 2) := by decide +kernel
theorem d_SlippedStreamsModel_take_6 : decode b_SlippedStreamsModel_take 6 = .ok (.iload_n 1, 1) := by decide +kernel
theorem d_SlippedStreamsModel_take_7 : decode b_SlippedStreamsModel_take 7 = .ok (.imul, 1) := by decide +kernel
theorem d_SlippedStreamsModel_take_8 : decode b_SlippedStreamsModel_take 8 = .ok (.iaload, 1) := by decide +kernel
theorem d_SlippedStreamsModel_take_9 : decode b_SlippedStreamsModel_take 9 = .ok (.istore_n 2, 1) := by decide +kernel
theorem d_SlippedStreamsModel_take_10 : decode b_SlippedStreamsModel_take 10 = .ok (.aload_n 0, 1) := by decide +kernel
theorem d_SlippedStreamsModel_take_11 : decode b_SlippedStreamsModel_take 11 = .ok (.getfield 41, 3) := by decide +kernel
theorem d_SlippedStreamsModel_take_14 : decode b_SlippedStreamsModel_take 14 = .ok (.iload_n 1, 1) := by decide +kernel
theorem d_SlippedStreamsModel_take_15 : decode b_SlippedStreamsModel_take 15 = .ok (.aload_n 0, 1) := by decide +kernel
theorem d_SlippedStreamsModel_take_16 : decode b_SlippedStreamsModel_take 16 = .ok (.getfield 41, 3) := by decide +kernel
theorem d_SlippedStreamsModel_take_19 : decode b_SlippedStreamsModel_take 19 = .ok (.iload_n 1, 1) := by decide +kernel
theorem d_SlippedStreamsModel_take_20 : decode b_SlippedStreamsModel_take 20 = .ok (.iaload, 1) := by decide +kernel
theorem d_SlippedStreamsModel_take_21 : decode b_SlippedStreamsModel_take 21 = .ok (.iconst 1, 1) := by decide +kernel
theorem d_SlippedStreamsModel_take_22 : decode b_SlippedStreamsModel_take 22 = .ok (.isub, 1) := by decide +kernel
theorem d_SlippedStreamsModel_take_23 : decode b_SlippedStreamsModel_take 23 = .ok (.iastore, 1) := by decide +kernel
theorem d_SlippedStreamsModel_take_24 : decode b_SlippedStreamsModel_take 24 = .ok (.iconst 0, 1) := by decide +kernel
theorem d_SlippedStreamsModel_take_25 : decode b_SlippedStreamsModel_take 25 = .ok (.istore_n 3, 1) := by decide +kernel
theorem d_SlippedStreamsModel_take_26 : decode b_SlippedStreamsModel_take 26 = .ok (.iload_n 3, 1) := by decide +kernel
theorem d_SlippedStreamsModel_take_27 : decode b_SlippedStreamsModel_take 27 = .ok (.aload_n 0, 1) := by decide +kernel
theorem d_SlippedStreamsModel_take_28 : decode b_SlippedStreamsModel_take 28 = .ok (.getfield 41, 3) := by decide +kernel
theorem d_SlippedStreamsModel_take_31 : decode b_SlippedStreamsModel_take 31 = .ok (.iload_n 1, 1) := by decide +kernel
theorem d_SlippedStreamsModel_take_32 : decode b_SlippedStreamsModel_take 32 = .ok (.iaload, 1) := by decide +kernel
theorem d_SlippedStreamsModel_take_33 : decode b_SlippedStreamsModel_take 33 = .ok (.if_icmp .ge 33, 3) := by decide +kernel
theorem d_SlippedStreamsModel_take_36 : decode b_SlippedStreamsModel_take 36 = .ok (.aload_n 0, 1) := by decide +kernel
theorem d_SlippedStreamsModel_take_37 : decode b_SlippedStreamsModel_take 37 = .ok (.getfield 38, 3) := by decide +kernel
theorem d_SlippedStreamsModel_take_40 : decode b_SlippedStreamsModel_take 40 = .ok (.bipush 6, 2) := by decide +kernel
theorem d_SlippedStreamsModel_take_42 : decode b_SlippedStreamsModel_take 42 = .ok (.iload_n 1, 1) := by decide +kernel
theorem d_SlippedStreamsModel_take_43 : decode b_SlippedStreamsModel_take 43 = .ok (.imul, 1) := by decide +kernel
theorem d_SlippedStreamsModel_take_44 : decode b_SlippedStreamsModel_take 44 = .ok (.iload_n 3, 1) := by decide +kernel
theorem d_SlippedStreamsModel_take_45 : decode b_SlippedStreamsModel_take 45 = .ok (.iadd, 1) := by decide +kernel
theorem d_SlippedStreamsModel_take_46 : decode b_SlippedStreamsModel_take 46 = .ok (.aload_n 0, 1) := by decide +kernel
theorem d_SlippedStreamsModel_take_47 : decode b_SlippedStreamsModel_take 47 = .ok (.getfield 38, 3) := by decide +kernel
theorem d_SlippedStreamsModel_take_50 : decode b_SlippedStreamsModel_take 50 = .ok (.bipush 6, 2) := by decide +kernel
theorem d_SlippedStreamsModel_take_52 : decode b_SlippedStreamsModel_take 52 = .ok (.iload_n 1, 1) := by decide +kernel
theorem d_SlippedStreamsModel_take_53 : decode b_SlippedStreamsModel_take 53 = .ok (.imul, 1) := by decide +kernel
theorem d_SlippedStreamsModel_take_54 : decode b_SlippedStreamsModel_take 54 = .ok (.iload_n 3, 1) := by decide +kernel
theorem d_SlippedStreamsModel_take_55 : decode b_SlippedStreamsModel_take 55 = .ok (.iadd, 1) := by decide +kernel
theorem d_SlippedStreamsModel_take_56 : decode b_SlippedStreamsModel_take 56 = .ok (.iconst 1, 1) := by decide +kernel
theorem d_SlippedStreamsModel_take_57 : decode b_SlippedStreamsModel_take 57 = .ok (.iadd, 1) := by decide +kernel
theorem d_SlippedStreamsModel_take_58 : decode b_SlippedStreamsModel_take 58 = .ok (.iaload, 1) := by decide +kernel
theorem d_SlippedStreamsModel_take_59 : decode b_SlippedStreamsModel_take 59 = .ok (.iastore, 1) := by decide +kernel
theorem d_SlippedStreamsModel_take_60 : decode b_SlippedStreamsModel_take 60 = .ok (.iinc 3 1, 3) := by decide +kernel
theorem d_SlippedStreamsModel_take_63 : decode b_SlippedStreamsModel_take 63 = .ok (.goto (-37), 3) := by decide +kernel
theorem d_SlippedStreamsModel_take_66 : decode b_SlippedStreamsModel_take 66 = .ok (.iload_n 2, 1) := by decide +kernel
theorem d_SlippedStreamsModel_take_67 : decode b_SlippedStreamsModel_take 67 = .ok (.ireturn, 1) := by decide +kernel
theorem d_SlippedStreamsModel_follow_0 : decode b_SlippedStreamsModel_follow 0 = .ok (.aload_n 0, 1) := by decide +kernel
theorem d_SlippedStreamsModel_follow_1 : decode b_SlippedStreamsModel_follow 1 = .ok (.iload_n 1, 1) := by decide +kernel
theorem d_SlippedStreamsModel_follow_2 : decode b_SlippedStreamsModel_follow 2 = .ok (.invokevirtual 122, 3) := by decide +kernel
theorem d_SlippedStreamsModel_follow_5 : decode b_SlippedStreamsModel_follow 5 = .ok (.istore_n 2, 1) := by decide +kernel
theorem d_SlippedStreamsModel_follow_6 : decode b_SlippedStreamsModel_follow 6 = .ok (.iload_n 2, 1) := by decide +kernel
theorem d_SlippedStreamsModel_follow_7 : decode b_SlippedStreamsModel_follow 7 = .ok (.ifCond .le 34, 3) := by decide +kernel
theorem d_SlippedStreamsModel_follow_10 : decode b_SlippedStreamsModel_follow 10 = .ok (.aload_n 0, 1) := by decide +kernel
theorem d_SlippedStreamsModel_follow_11 : decode b_SlippedStreamsModel_follow 11 = .ok (.getfield 85, 3) := by decide +kernel
theorem d_SlippedStreamsModel_follow_14 : decode b_SlippedStreamsModel_follow 14 = .ok (.ifCond .ne 27, 3) := by decide +kernel
theorem d_SlippedStreamsModel_follow_17 : decode b_SlippedStreamsModel_follow 17 = .ok (.aload_n 0, 1) := by decide +kernel
theorem d_SlippedStreamsModel_follow_18 : decode b_SlippedStreamsModel_follow 18 = .ok (.iconst 4, 1) := by decide +kernel
theorem d_SlippedStreamsModel_follow_19 : decode b_SlippedStreamsModel_follow 19 = .ok (.iload_n 2, 1) := by decide +kernel
theorem d_SlippedStreamsModel_follow_20 : decode b_SlippedStreamsModel_follow 20 = .ok (.invokevirtual 136, 3) := by decide +kernel
theorem d_SlippedStreamsModel_follow_23 : decode b_SlippedStreamsModel_follow 23 = .ok (.ifCond .eq 13, 3) := by decide +kernel
theorem d_SlippedStreamsModel_follow_26 : decode b_SlippedStreamsModel_follow 26 = .ok (.aload_n 0, 1) := by decide +kernel
theorem d_SlippedStreamsModel_follow_27 : decode b_SlippedStreamsModel_follow 27 = .ok (.iload_n 1, 1) := by decide +kernel
theorem d_SlippedStreamsModel_follow_28 : decode b_SlippedStreamsModel_follow 28 = .ok (.invokevirtual 148, 3) := by decide +kernel
theorem d_SlippedStreamsModel_follow_31 : decode b_SlippedStreamsModel_follow 31 = .ok (.aload_n 0, 1) := by decide +kernel
