theorem dL_cell_0 : decode cL_cell 0 = .ok (.iload_n 1, 1) := by decide +kernel
theorem dL_cell_1 : decode cL_cell 1 = .ok (.aload_n 0, 1) := by decide +kernel
theorem dL_cell_2 : decode cL_cell 2 = .ok (.arraylength, 1) := by decide +kernel
theorem dL_cell_3 : decode cL_cell 3 = .ok (.if_icmp .ge 9, 3) := by decide +kernel
theorem dL_cell_6 : decode cL_cell 6 = .ok (.aload_n 0, 1) := by decide +kernel
theorem dL_cell_7 : decode cL_cell 7 = .ok (.iload_n 1, 1) := by decide +kernel
theorem dL_cell_8 : decode cL_cell 8 = .ok (.iaload, 1) := by decide +kernel
theorem dL_cell_9 : decode cL_cell 9 = .ok (.goto 15, 3) := by decide +kernel
theorem dL_cell_12 : decode cL_cell 12 = .ok (.sipush 7919, 3) := by decide +kernel
theorem dL_cell_15 : decode cL_cell 15 = .ok (.iload_n 1, 1) := by decide +kernel
theorem dL_cell_16 : decode cL_cell 16 = .ok (.iconst 3, 1) := by decide +kernel
theorem dL_cell_17 : decode cL_cell 17 = .ok (.iadd, 1) := by decide +kernel
theorem dL_cell_18 : decode cL_cell 18 = .ok (.imul, 1) := by decide +kernel
theorem dL_cell_19 : decode cL_cell 19 = .ok (.iload_n 1, 1) := by decide +kernel
theorem dL_cell_20 : decode cL_cell 20 = .ok (.bipush 11, 2) := by decide +kernel
theorem dL_cell_22 : decode cL_cell 22 = .ok (.iadd, 1) := by decide +kernel
theorem dL_cell_23 : decode cL_cell 23 = .ok (.imul, 1) := by decide +kernel
theorem dL_cell_24 : decode cL_cell 24 = .ok (.ireturn, 1) := by decide +kernel
theorem dL_low_0 : decode cL_low 0 = .ok (.iload_n 0, 1) := by decide +kernel
theorem dL_low_1 : decode cL_low 1 = .ok (.ldc 7, 2) := by decide +kernel
theorem dL_low_3 : decode cL_low 3 = .ok (.iand, 1) := by decide +kernel
theorem dL_low_4 : decode cL_low 4 = .ok (.iload_n 1, 1) := by decide +kernel
theorem dL_low_5 : decode cL_low 5 = .ok (.irem, 1) := by decide +kernel
theorem dL_low_6 : decode cL_low 6 = .ok (.ireturn, 1) := by decide +kernel
theorem dL_told_0 : decode cL_told 0 = .ok (.ldc2_w 8, 3) := by decide +kernel
theorem dL_told_3 : decode cL_told 3 = .ok (.lstore_n 1, 1) := by decide +kernel
theorem dL_told_4 : decode cL_told 4 = .ok (.iconst 0, 1) := by decide +kernel
theorem dL_told_5 : decode cL_told 5 = .ok (.istore_n 3, 1) := by decide +kernel
theorem dL_told_6 : decode cL_told 6 = .ok (.iload_n 3, 1) := by decide +kernel
theorem dL_told_7 : decode cL_told 7 = .ok (.bipush 13, 2) := by decide +kernel
theorem dL_told_9 : decode cL_told 9 = .ok (.if_icmp .ge 22, 3) := by decide +kernel
theorem dL_told_12 : decode cL_told 12 = .ok (.ldc2_w 10, 3) := by decide +kernel
theorem dL_told_15 : decode cL_told 15 = .ok (.lload_n 1, 1) := by decide +kernel
theorem dL_told_16 : decode cL_told 16 = .ok (.lmul, 1) := by decide +kernel
theorem dL_told_17 : decode cL_told 17 = .ok (.aload_n 0, 1) := by decide +kernel
theorem dL_told_18 : decode cL_told 18 = .ok (.iload_n 3, 1) := by decide +kernel
theorem dL_told_19 : decode cL_told 19 = .ok (.invokevirtual 12, 3) := by decide +kernel
theorem dL_told_22 : decode cL_told 22 = .ok (.i2l, 1) := by decide +kernel
theorem dL_told_23 : decode cL_told 23 = .ok (.ladd, 1) := by decide +kernel
theorem dL_told_24 : decode cL_told 24 = .ok (.lstore_n 1, 1) := by decide +kernel
theorem dL_told_25 : decode cL_told 25 = .ok (.iinc 3 1, 3) := by decide +kernel
theorem dL_told_28 : decode cL_told 28 = .ok (.goto (-22), 3) := by decide +kernel
theorem dL_told_31 : decode cL_told 31 = .ok (.iconst 0, 1) := by decide +kernel
theorem dL_told_32 : decode cL_told 32 = .ok (.istore_n 3, 1) := by decide +kernel
theorem dL_told_33 : decode cL_told 33 = .ok (.iload_n 3, 1) := by decide +kernel
theorem dL_told_34 : decode cL_told 34 = .ok (.bipush 10, 2) := by decide +kernel
theorem dL_told_36 : decode cL_told 36 = .ok (.if_icmp .ge 70, 3) := by decide +kernel
theorem dL_told_39 : decode cL_told 39 = .ok (.iconst 0, 1) := by decide +kernel
theorem dL_told_40 : decode cL_told 40 = .ok (.istore 4, 2) := by decide +kernel
theorem dL_told_42 : decode cL_told 42 = .ok (.iload 4, 2) := by decide +kernel
theorem dL_told_44 : decode cL_told 44 = .ok (.bipush 7, 2) := by decide +kernel
theorem dL_told_46 : decode cL_told 46 = .ok (.if_icmp .ge 24, 3) := by decide +kernel
theorem dL_told_49 : decode cL_told 49 = .ok (.ldc2_w 10, 3) := by decide +kernel
theorem dL_told_52 : decode cL_told 52 = .ok (.lload_n 1, 1) := by decide +kernel
theorem dL_told_53 : decode cL_told 53 = .ok (.lmul, 1) := by decide +kernel
theorem dL_told_54 : decode cL_told 54 = .ok (.aload_n 0, 1) := by decide +kernel
theorem dL_told_55 : decode cL_told 55 = .ok (.iload_n 3, 1) := by decide +kernel
theorem dL_told_56 : decode cL_told 56 = .ok (.iload 4, 2) := by decide +kernel
theorem dL_told_58 : decode cL_told 58 = .ok (.invokevirtual 18, 3) := by decide +kernel
theorem dL_told_61 : decode cL_told 61 = .ok (.i2l, 1) := by decide +kernel
theorem dL_told_62 : decode cL_told 62 = .ok (.ladd, 1) := by decide +kernel
theorem dL_told_63 : decode cL_told 63 = .ok (.lstore_n 1, 1) := by decide +kernel
theorem dL_told_64 : decode cL_told 64 = .ok (.iinc 4 1, 3) := by decide +kernel
theorem dL_told_67 : decode cL_told 67 = .ok (.goto (-25), 3) := by decide +kernel
theorem dL_told_70 : decode cL_told 70 = .ok (.iconst 0, 1) := by decide +kernel
theorem dL_told_71 : decode cL_told 71 = .ok (.istore 4, 2) := by decide +kernel
theorem dL_told_73 : decode cL_told 73 = .ok (.iload 4, 2) := by decide +kernel
theorem dL_told_75 : decode cL_told 75 = .ok (.iconst 5, 1) := by decide +kernel
theorem dL_told_76 : decode cL_told 76 = .ok (.if_icmp .ge 24, 3) := by decide +kernel
theorem dL_told_79 : decode cL_told 79 = .ok (.ldc2_w 10, 3) := by decide +kernel
theorem dL_told_82 : decode cL_told 82 = .ok (.lload_n 1, 1) := by decide +kernel
theorem dL_told_83 : decode cL_told 83 = .ok (.lmul, 1) := by decide +kernel
theorem dL_told_84 : decode cL_told 84 = .ok (.aload_n 0, 1) := by decide +kernel
theorem dL_told_85 : decode cL_told 85 = .ok (.iload_n 3, 1) := by decide +kernel
theorem dL_told_86 : decode cL_told 86 = .ok (.iload 4, 2) := by decide +kernel
theorem dL_told_88 : decode cL_told 88 = .ok (.invokevirtual 22, 3) := by decide +kernel
theorem dL_told_91 : decode cL_told 91 = .ok (.i2l, 1) := by decide +kernel
theorem dL_told_92 : decode cL_told 92 = .ok (.ladd, 1) := by decide +kernel
theorem dL_told_93 : decode cL_told 93 = .ok (.lstore_n 1, 1) := by decide +kernel
theorem dL_told_94 : decode cL_told 94 = .ok (.iinc 4 1, 3) := by decide +kernel
theorem dL_told_97 : decode cL_told 97 = .ok (.goto (-24), 3) := by decide +kernel
theorem dL_told_100 : decode cL_told 100 = .ok (.iinc 3 1, 3) := by decide +kernel
theorem dL_told_103 : decode cL_told 103 = .ok (.goto (-70), 3) := by decide +kernel
theorem dL_told_106 : decode cL_told 106 = .ok (.iconst 0, 1) := by decide +kernel
theorem dL_told_107 : decode cL_told 107 = .ok (.istore_n 3, 1) := by decide +kernel
theorem dL_told_108 : decode cL_told 108 = .ok (.iload_n 3, 1) := by decide +kernel
theorem dL_told_109 : decode cL_told 109 = .ok (.iconst 3, 1) := by decide +kernel
theorem dL_told_110 : decode cL_told 110 = .ok (.if_icmp .ge 35, 3) := by decide +kernel
theorem dL_told_113 : decode cL_told 113 = .ok (.ldc2_w 10, 3) := by decide +kernel
theorem dL_told_116 : decode cL_told 116 = .ok (.ldc2_w 10, 3) := by decide +kernel
theorem dL_told_119 : decode cL_told 119 = .ok (.lload_n 1, 1) := by decide +kernel
theorem dL_told_120 : decode cL_told 120 = .ok (.lmul, 1) := by decide +kernel
theorem dL_told_121 : decode cL_told 121 = .ok (.aload_n 0, 1) := by decide +kernel
theorem dL_told_122 : decode cL_told 122 = .ok (.iload_n 3, 1) := by decide +kernel
theorem dL_told_123 : decode cL_told 123 = .ok (.iconst 3, 1) := by decide +kernel
theorem dL_told_124 : decode cL_told 124 = .ok (.invokevirtual 25, 3) := by decide +kernel
theorem dL_told_127 : decode cL_told 127 = .ok (.i2l, 1) := by decide +kernel
theorem dL_told_128 : decode cL_told 128 = .ok (.ladd, 1) := by decide +kernel
theorem dL_told_129 : decode cL_told 129 = .ok (.lmul, 1) := by decide +kernel
theorem dL_told_130 : decode cL_told 130 = .ok (.aload_n 0, 1) := by decide +kernel
theorem dL_told_131 : decode cL_told 131 = .ok (.iload_n 3, 1) := by decide +kernel
theorem dL_told_132 : decode cL_told 132 = .ok (.iconst 5, 1) := by decide +kernel
theorem dL_told_133 : decode cL_told 133 = .ok (.invokevirtual 25, 3) := by decide +kernel
theorem dL_told_136 : decode cL_told 136 = .ok (.i2l, 1) := by decide +kernel
theorem dL_told_137 : decode cL_told 137 = .ok (.ladd, 1) := by decide +kernel
theorem dL_told_138 : decode cL_told 138 = .ok (.lstore_n 1, 1) := by decide +kernel
theorem dL_told_139 : decode cL_told 139 = .ok (.iinc 3 1, 3) := by decide +kernel
theorem dL_told_142 : decode cL_told 142 = .ok (.goto (-34), 3) := by decide +kernel
theorem dL_told_145 : decode cL_told 145 = .ok (.iconst 1, 1) := by decide +kernel
theorem dL_told_146 : decode cL_told 146 = .ok (.istore_n 3, 1) := by decide +kernel
theorem dL_told_147 : decode cL_told 147 = .ok (.iload_n 3, 1) := by decide +kernel
theorem dL_told_148 : decode cL_told 148 = .ok (.bipush 12, 2) := by decide +kernel
theorem dL_told_150 : decode cL_told 150 = .ok (.if_icmp .ge 35, 3) := by decide +kernel
theorem dL_told_153 : decode cL_told 153 = .ok (.ldc2_w 10, 3) := by decide +kernel
theorem dL_told_156 : decode cL_told 156 = .ok (.ldc2_w 10, 3) := by decide +kernel
theorem dL_told_159 : decode cL_told 159 = .ok (.lload_n 1, 1) := by decide +kernel
theorem dL_told_160 : decode cL_told 160 = .ok (.lmul, 1) := by decide +kernel
theorem dL_told_161 : decode cL_told 161 = .ok (.aload_n 0, 1) := by decide +kernel
theorem dL_told_162 : decode cL_told 162 = .ok (.iload_n 3, 1) := by decide +kernel
theorem dL_told_163 : decode cL_told 163 = .ok (.iconst 0, 1) := by decide +kernel
theorem dL_told_164 : decode cL_told 164 = .ok (.invokevirtual 28, 3) := by decide +kernel
theorem dL_told_167 : decode cL_told 167 = .ok (.i2l, 1) := by decide +kernel
theorem dL_told_168 : decode cL_told 168 = .ok (.ladd, 1) := by decide +kernel
theorem dL_told_169 : decode cL_told 169 = .ok (.lmul, 1) := by decide +kernel
theorem dL_told_170 : decode cL_told 170 = .ok (.aload_n 0, 1) := by decide +kernel
theorem dL_told_171 : decode cL_told 171 = .ok (.iload_n 3, 1) := by decide +kernel
theorem dL_told_172 : decode cL_told 172 = .ok (.iconst 1, 1) := by decide +kernel
theorem dL_told_173 : decode cL_told 173 = .ok (.invokevirtual 28, 3) := by decide +kernel
theorem dL_told_176 : decode cL_told 176 = .ok (.i2l, 1) := by decide +kernel
theorem dL_told_177 : decode cL_told 177 = .ok (.ladd, 1) := by decide +kernel
theorem dL_told_178 : decode cL_told 178 = .ok (.lstore_n 1, 1) := by decide +kernel
theorem dL_told_179 : decode cL_told 179 = .ok (.iinc 3 1, 3) := by decide +kernel
theorem dL_told_182 : decode cL_told 182 = .ok (.goto (-35), 3) := by decide +kernel
theorem dL_told_185 : decode cL_told 185 = .ok (.lload_n 1, 1) := by decide +kernel
theorem dL_told_186 : decode cL_told 186 = .ok (.lreturn, 1) := by decide +kernel
theorem dL_act_0 : decode cL_act 0 = .ok (.iload_n 1, 1) := by decide +kernel
theorem dL_act_1 : decode cL_act 1 = .ok (.iconst 4, 1) := by decide +kernel
theorem dL_act_2 : decode cL_act 2 = .ok (.ishr, 1) := by decide +kernel
theorem dL_act_3 : decode cL_act 3 = .ok (.bipush 11, 2) := by decide +kernel
theorem dL_act_5 : decode cL_act 5 = .ok (.invokestatic 31, 3) := by decide +kernel
theorem dL_act_8 : decode cL_act 8 = .ok (.istore_n 3, 1) := by decide +kernel
theorem dL_act_9 : decode cL_act 9 = .ok (.iload_n 2, 1) := by decide +kernel
theorem dL_act_10 : decode cL_act 10 = .ok (.iload_n 1, 1) := by decide +kernel
theorem dL_act_11 : decode cL_act 11 = .ok (.bipush 20, 2) := by decide +kernel
theorem dL_act_13 : decode cL_act 13 = .ok (.ishr, 1) := by decide +kernel
theorem dL_act_14 : decode cL_act 14 = .ok (.iconst 1, 1) := by decide +kernel
theorem dL_act_15 : decode cL_act 15 = .ok (.iand, 1) := by decide +kernel
theorem dL_act_16 : decode cL_act 16 = .ok (.ifCond .ne 7, 3) := by decide +kernel
theorem dL_act_19 : decode cL_act 19 = .ok (.iconst 2, 1) := by decide +kernel
theorem dL_act_20 : decode cL_act 20 = .ok (.goto 4, 3) := by decide +kernel
theorem dL_act_23 : decode cL_act 23 = .ok (.iconst 4, 1) := by decide +kernel
theorem dL_act_24 : decode cL_act 24 = .ok (.invokestatic 31, 3) := by decide +kernel
theorem dL_act_27 : decode cL_act 27 = .ok (.istore 4, 2) := by decide +kernel
theorem dL_act_29 : decode cL_act 29 = .ok (.iload_n 1, 1) := by decide +kernel
theorem dL_act_30 : decode cL_act 30 = .ok (.bipush 15, 2) := by decide +kernel
theorem dL_act_32 : decode cL_act 32 = .ok (.iand, 1) := by decide +kernel
theorem dL_act_33 : decode cL_act 33 = .ok (.tableswitch 169 0 12 #[67, 67, 67, 95, 117, 125, 125, 125, 132, 132, 139, 145, 151], 67) := by decide +kernel
theorem dL_act_100 : decode cL_act 100 = .ok (.aload_n 0, 1) := by decide +kernel
theorem dL_act_101 : decode cL_act 101 = .ok (.iload 4, 2) := by decide +kernel
theorem dL_act_103 : decode cL_act 103 = .ok (.iload_n 2, 1) := by decide +kernel
theorem dL_act_104 : decode cL_act 104 = .ok (.iconst 3, 1) := by decide +kernel
theorem dL_act_105 : decode cL_act 105 = .ok (.ishr, 1) := by decide +kernel
theorem dL_act_106 : decode cL_act 106 = .ok (.iload_n 1, 1) := by decide +kernel
theorem dL_act_107 : decode cL_act 107 = .ok (.bipush 19, 2) := by decide +kernel
theorem dL_act_109 : decode cL_act 109 = .ok (.ishr, 1) := by decide +kernel
theorem dL_act_110 : decode cL_act 110 = .ok (.iconst 1, 1) := by decide +kernel
theorem dL_act_111 : decode cL_act 111 = .ok (.iand, 1) := by decide +kernel
theorem dL_act_112 : decode cL_act 112 = .ok (.ifCond .ne 7, 3) := by decide +kernel
theorem dL_act_115 : decode cL_act 115 = .ok (.iconst 3, 1) := by decide +kernel
theorem dL_act_116 : decode cL_act 116 = .ok (.goto 5, 3) := by decide +kernel
theorem dL_act_119 : decode cL_act 119 = .ok (.bipush 11, 2) := by decide +kernel
theorem dL_act_121 : decode cL_act 121 = .ok (.invokestatic 31, 3) := by decide +kernel
theorem dL_act_124 : decode cL_act 124 = .ok (.invokevirtual 36, 3) := by decide +kernel
theorem dL_act_127 : decode cL_act 127 = .ok (.ireturn, 1) := by decide +kernel
theorem dL_act_128 : decode cL_act 128 = .ok (.iload_n 2, 1) := by decide +kernel
theorem dL_act_129 : decode cL_act 129 = .ok (.iconst 5, 1) := by decide +kernel
theorem dL_act_130 : decode cL_act 130 = .ok (.ishr, 1) := by decide +kernel
theorem dL_act_131 : decode cL_act 131 = .ok (.iconst 3, 1) := by decide +kernel
theorem dL_act_132 : decode cL_act 132 = .ok (.iand, 1) := by decide +kernel
theorem dL_act_133 : decode cL_act 133 = .ok (.ifCond .le 11, 3) := by decide +kernel
theorem dL_act_136 : decode cL_act 136 = .ok (.aload_n 0, 1) := by decide +kernel
theorem dL_act_137 : decode cL_act 137 = .ok (.iconst 0, 1) := by decide +kernel
theorem dL_act_138 : decode cL_act 138 = .ok (.invokevirtual 39, 3) := by decide +kernel
theorem dL_act_141 : decode cL_act 141 = .ok (.goto 8, 3) := by decide +kernel
theorem dL_act_144 : decode cL_act 144 = .ok (.aload_n 0, 1) := by decide +kernel
theorem dL_act_145 : decode cL_act 145 = .ok (.iload_n 3, 1) := by decide +kernel
theorem dL_act_146 : decode cL_act 146 = .ok (.invokevirtual 42, 3) := by decide +kernel
theorem dL_act_149 : decode cL_act 149 = .ok (.ireturn, 1) := by decide +kernel
theorem dL_act_150 : decode cL_act 150 = .ok (.aload_n 0, 1) := by decide +kernel
theorem dL_act_151 : decode cL_act 151 = .ok (.iload_n 3, 1) := by decide +kernel
theorem dL_act_152 : decode cL_act 152 = .ok (.iload 4, 2) := by decide +kernel
theorem dL_act_154 : decode cL_act 154 = .ok (.invokevirtual 45, 3) := by decide +kernel
theorem dL_act_157 : decode cL_act 157 = .ok (.ireturn, 1) := by decide +kernel
theorem dL_act_158 : decode cL_act 158 = .ok (.aload_n 0, 1) := by decide +kernel
theorem dL_act_159 : decode cL_act 159 = .ok (.iload 4, 2) := by decide +kernel
theorem dL_act_161 : decode cL_act 161 = .ok (.invokevirtual 48, 3) := by decide +kernel
theorem dL_act_164 : decode cL_act 164 = .ok (.ireturn, 1) := by decide +kernel
theorem dL_act_165 : decode cL_act 165 = .ok (.aload_n 0, 1) := by decide +kernel
theorem dL_act_166 : decode cL_act 166 = .ok (.iload 4, 2) := by decide +kernel
theorem dL_act_168 : decode cL_act 168 = .ok (.invokevirtual 51, 3) := by decide +kernel
theorem dL_act_171 : decode cL_act 171 = .ok (.ireturn, 1) := by decide +kernel
theorem dL_act_172 : decode cL_act 172 = .ok (.aload_n 0, 1) := by decide +kernel
theorem dL_act_173 : decode cL_act 173 = .ok (.iload_n 3, 1) := by decide +kernel
theorem dL_act_174 : decode cL_act 174 = .ok (.invokevirtual 54, 3) := by decide +kernel
theorem dL_act_177 : decode cL_act 177 = .ok (.ireturn, 1) := by decide +kernel
theorem dL_act_178 : decode cL_act 178 = .ok (.aload_n 0, 1) := by decide +kernel
theorem dL_act_179 : decode cL_act 179 = .ok (.iload_n 3, 1) := by decide +kernel
theorem dL_act_180 : decode cL_act 180 = .ok (.invokevirtual 57, 3) := by decide +kernel
theorem dL_act_183 : decode cL_act 183 = .ok (.ireturn, 1) := by decide +kernel
theorem dL_act_184 : decode cL_act 184 = .ok (.aload_n 0, 1) := by decide +kernel
theorem dL_act_185 : decode cL_act 185 = .ok (.iload_n 2, 1) := by decide +kernel
theorem dL_act_186 : decode cL_act 186 = .ok (.iconst 5, 1) := by decide +kernel
theorem dL_act_187 : decode cL_act 187 = .ok (.invokestatic 31, 3) := by decide +kernel
theorem dL_act_190 : decode cL_act 190 = .ok (.iload_n 2, 1) := by decide +kernel
theorem dL_act_191 : decode cL_act 191 = .ok (.iconst 3, 1) := by decide +kernel
theorem dL_act_192 : decode cL_act 192 = .ok (.ishr, 1) := by decide +kernel
theorem dL_act_193 : decode cL_act 193 = .ok (.bipush 10, 2) := by decide +kernel
theorem dL_act_195 : decode cL_act 195 = .ok (.invokestatic 31, 3) := by decide +kernel
theorem dL_act_198 : decode cL_act 198 = .ok (.invokevirtual 60, 3) := by decide +kernel
theorem dL_act_201 : decode cL_act 201 = .ok (.ireturn, 1) := by decide +kernel
theorem dL_act_202 : decode cL_act 202 = .ok (.aload_n 0, 1) := by decide +kernel
theorem dL_act_203 : decode cL_act 203 = .ok (.iload_n 2, 1) := by decide +kernel
theorem dL_act_204 : decode cL_act 204 = .ok (.iload_n 1, 1) := by decide +kernel
theorem dL_act_205 : decode cL_act 205 = .ok (.bipush 20, 2) := by decide +kernel
theorem dL_act_207 : decode cL_act 207 = .ok (.ishr, 1) := by decide +kernel
theorem dL_act_208 : decode cL_act 208 = .ok (.iconst 1, 1) := by decide +kernel
theorem dL_act_209 : decode cL_act 209 = .ok (.iand, 1) := by decide +kernel
theorem dL_act_210 : decode cL_act 210 = .ok (.ifCond .ne 8, 3) := by decide +kernel
theorem dL_act_213 : decode cL_act 213 = .ok (.bipush 7, 2) := by decide +kernel
theorem dL_act_215 : decode cL_act 215 = .ok (.goto 5, 3) := by decide +kernel
theorem dL_act_218 : decode cL_act 218 = .ok (.bipush 101, 2) := by decide +kernel
theorem dL_act_220 : decode cL_act 220 = .ok (.invokestatic 31, 3) := by decide +kernel
theorem dL_act_223 : decode cL_act 223 = .ok (.invokevirtual 63, 3) := by decide +kernel
theorem dL_act_226 : decode cL_act 226 = .ok (.ireturn, 1) := by decide +kernel
theorem dL_holds_0 : decode cL_holds 0 = .ok (.iconst 0, 1) := by decide +kernel
theorem dL_holds_1 : decode cL_holds 1 = .ok (.istore_n 1, 1) := by decide +kernel
theorem dL_holds_2 : decode cL_holds 2 = .ok (.iconst 0, 1) := by decide +kernel
theorem dL_holds_3 : decode cL_holds 3 = .ok (.istore_n 2, 1) := by decide +kernel
theorem dL_holds_4 : decode cL_holds 4 = .ok (.iconst 0, 1) := by decide +kernel
theorem dL_holds_5 : decode cL_holds 5 = .ok (.istore_n 3, 1) := by decide +kernel
theorem dL_holds_6 : decode cL_holds 6 = .ok (.iload_n 3, 1) := by decide +kernel
theorem dL_holds_7 : decode cL_holds 7 = .ok (.iconst 3, 1) := by decide +kernel
theorem dL_holds_8 : decode cL_holds 8 = .ok (.if_icmp .ge 290, 3) := by decide +kernel
theorem dL_holds_11 : decode cL_holds 11 = .ok (.aload_n 0, 1) := by decide +kernel
theorem dL_holds_12 : decode cL_holds 12 = .ok (.iload_n 3, 1) := by decide +kernel
theorem dL_holds_13 : decode cL_holds 13 = .ok (.iconst 0, 1) := by decide +kernel
theorem dL_holds_14 : decode cL_holds 14 = .ok (.invokevirtual 25, 3) := by decide +kernel
theorem dL_holds_17 : decode cL_holds 17 = .ok (.istore 4, 2) := by decide +kernel
theorem dL_holds_19 : decode cL_holds 19 = .ok (.aload_n 0, 1) := by decide +kernel
theorem dL_holds_20 : decode cL_holds 20 = .ok (.iload_n 3, 1) := by decide +kernel
theorem dL_holds_21 : decode cL_holds 21 = .ok (.iconst 1, 1) := by decide +kernel
theorem dL_holds_22 : decode cL_holds 22 = .ok (.invokevirtual 25, 3) := by decide +kernel
theorem dL_holds_25 : decode cL_holds 25 = .ok (.istore 5, 2) := by decide +kernel
theorem dL_holds_27 : decode cL_holds 27 = .ok (.aload_n 0, 1) := by decide +kernel
theorem dL_holds_28 : decode cL_holds 28 = .ok (.iload_n 3, 1) := by decide +kernel
theorem dL_holds_29 : decode cL_holds 29 = .ok (.iconst 3, 1) := by decide +kernel
theorem dL_holds_30 : decode cL_holds 30 = .ok (.invokevirtual 25, 3) := by decide +kernel
theorem dL_holds_33 : decode cL_holds 33 = .ok (.istore 6, 2) := by decide +kernel
theorem dL_holds_35 : decode cL_holds 35 = .ok (.iload_n 2, 1) := by decide +kernel
theorem dL_holds_36 : decode cL_holds 36 = .ok (.aload_n 0, 1) := by decide +kernel
theorem dL_holds_37 : decode cL_holds 37 = .ok (.iload_n 3, 1) := by decide +kernel
theorem dL_holds_38 : decode cL_holds 38 = .ok (.iconst 5, 1) := by decide +kernel
theorem dL_holds_39 : decode cL_holds 39 = .ok (.invokevirtual 25, 3) := by decide +kernel
theorem dL_holds_42 : decode cL_holds 42 = .ok (.iadd, 1) := by decide +kernel
theorem dL_holds_43 : decode cL_holds 43 = .ok (.istore_n 2, 1) := by decide +kernel
theorem dL_holds_44 : decode cL_holds 44 = .ok (.iload_n 1, 1) := by decide +kernel
theorem dL_holds_45 : decode cL_holds 45 = .ok (.iload 4, 2) := by decide +kernel
theorem dL_holds_47 : decode cL_holds 47 = .ok (.iand, 1) := by decide +kernel
theorem dL_holds_48 : decode cL_holds 48 = .ok (.ifCond .ne 68, 3) := by decide +kernel
theorem dL_holds_51 : decode cL_holds 51 = .ok (.iload 4, 2) := by decide +kernel
theorem dL_holds_53 : decode cL_holds 53 = .ok (.ifCond .ne 7, 3) := by decide +kernel
theorem dL_holds_56 : decode cL_holds 56 = .ok (.iconst 1, 1) := by decide +kernel
theorem dL_holds_57 : decode cL_holds 57 = .ok (.goto 4, 3) := by decide +kernel
theorem dL_holds_60 : decode cL_holds 60 = .ok (.iconst 0, 1) := by decide +kernel
theorem dL_holds_61 : decode cL_holds 61 = .ok (.iload 5, 2) := by decide +kernel
theorem dL_holds_63 : decode cL_holds 63 = .ok (.bipush (-6), 2) := by decide +kernel
theorem dL_holds_65 : decode cL_holds 65 = .ok (.if_icmp .ne 7, 3) := by decide +kernel
theorem dL_holds_68 : decode cL_holds 68 = .ok (.iconst 1, 1) := by decide +kernel
theorem dL_holds_69 : decode cL_holds 69 = .ok (.goto 4, 3) := by decide +kernel
theorem dL_holds_72 : decode cL_holds 72 = .ok (.iconst 0, 1) := by decide +kernel
theorem dL_holds_73 : decode cL_holds 73 = .ok (.if_icmp .ne 43, 3) := by decide +kernel
theorem dL_holds_76 : decode cL_holds 76 = .ok (.iload 4, 2) := by decide +kernel
theorem dL_holds_78 : decode cL_holds 78 = .ok (.ifCond .ne 10, 3) := by decide +kernel
theorem dL_holds_81 : decode cL_holds 81 = .ok (.iload 6, 2) := by decide +kernel
theorem dL_holds_83 : decode cL_holds 83 = .ok (.bipush (-6), 2) := by decide +kernel
theorem dL_holds_85 : decode cL_holds 85 = .ok (.if_icmp .ne 31, 3) := by decide +kernel
theorem dL_holds_88 : decode cL_holds 88 = .ok (.iload 6, 2) := by decide +kernel
theorem dL_holds_90 : decode cL_holds 90 = .ok (.ifCond .ge 7, 3) := by decide +kernel
theorem dL_holds_93 : decode cL_holds 93 = .ok (.iconst 1, 1) := by decide +kernel
theorem dL_holds_94 : decode cL_holds 94 = .ok (.goto 4, 3) := by decide +kernel
theorem dL_holds_97 : decode cL_holds 97 = .ok (.iconst 0, 1) := by decide +kernel
theorem dL_holds_98 : decode cL_holds 98 = .ok (.aload_n 0, 1) := by decide +kernel
theorem dL_holds_99 : decode cL_holds 99 = .ok (.iload_n 3, 1) := by decide +kernel
theorem dL_holds_100 : decode cL_holds 100 = .ok (.invokevirtual 66, 3) := by decide +kernel
theorem dL_holds_103 : decode cL_holds 103 = .ok (.bipush (-5), 2) := by decide +kernel
theorem dL_holds_105 : decode cL_holds 105 = .ok (.if_icmp .ne 7, 3) := by decide +kernel
theorem dL_holds_108 : decode cL_holds 108 = .ok (.iconst 1, 1) := by decide +kernel
theorem dL_holds_109 : decode cL_holds 109 = .ok (.goto 4, 3) := by decide +kernel
theorem dL_holds_112 : decode cL_holds 112 = .ok (.iconst 0, 1) := by decide +kernel
theorem dL_holds_113 : decode cL_holds 113 = .ok (.if_icmp .eq 5, 3) := by decide +kernel
theorem dL_holds_116 : decode cL_holds 116 = .ok (.iconst 0, 1) := by decide +kernel
theorem dL_holds_117 : decode cL_holds 117 = .ok (.ireturn, 1) := by decide +kernel
theorem dL_holds_118 : decode cL_holds 118 = .ok (.iload_n 1, 1) := by decide +kernel
theorem dL_holds_119 : decode cL_holds 119 = .ok (.iload 4, 2) := by decide +kernel
theorem dL_holds_121 : decode cL_holds 121 = .ok (.ior, 1) := by decide +kernel
theorem dL_holds_122 : decode cL_holds 122 = .ok (.istore_n 1, 1) := by decide +kernel
theorem dL_holds_123 : decode cL_holds 123 = .ok (.iconst 0, 1) := by decide +kernel
theorem dL_holds_124 : decode cL_holds 124 = .ok (.istore 7, 2) := by decide +kernel
theorem dL_holds_126 : decode cL_holds 126 = .ok (.iload 7, 2) := by decide +kernel
theorem dL_holds_128 : decode cL_holds 128 = .ok (.bipush 10, 2) := by decide +kernel
theorem dL_holds_130 : decode cL_holds 130 = .ok (.if_icmp .ge 105, 3) := by decide +kernel
theorem dL_holds_133 : decode cL_holds 133 = .ok (.iload 4, 2) := by decide +kernel
theorem dL_holds_135 : decode cL_holds 135 = .ok (.iload 7, 2) := by decide +kernel
theorem dL_holds_137 : decode cL_holds 137 = .ok (.ishr, 1) := by decide +kernel
theorem dL_holds_138 : decode cL_holds 138 = .ok (.iconst 1, 1) := by decide +kernel
theorem dL_holds_139 : decode cL_holds 139 = .ok (.iand, 1) := by decide +kernel
theorem dL_holds_140 : decode cL_holds 140 = .ok (.iconst 1, 1) := by decide +kernel
theorem dL_holds_141 : decode cL_holds 141 = .ok (.if_icmp .ne 7, 3) := by decide +kernel
theorem dL_holds_144 : decode cL_holds 144 = .ok (.iconst 1, 1) := by decide +kernel
theorem dL_holds_145 : decode cL_holds 145 = .ok (.goto 4, 3) := by decide +kernel
theorem dL_holds_148 : decode cL_holds 148 = .ok (.iconst 0, 1) := by decide +kernel
theorem dL_holds_149 : decode cL_holds 149 = .ok (.istore 8, 2) := by decide +kernel
theorem dL_holds_151 : decode cL_holds 151 = .ok (.iload 8, 2) := by decide +kernel
theorem dL_holds_153 : decode cL_holds 153 = .ok (.ifCond .eq 76, 3) := by decide +kernel
theorem dL_holds_156 : decode cL_holds 156 = .ok (.aload_n 0, 1) := by decide +kernel
theorem dL_holds_157 : decode cL_holds 157 = .ok (.iload 7, 2) := by decide +kernel
theorem dL_holds_159 : decode cL_holds 159 = .ok (.iconst 0, 1) := by decide +kernel
theorem dL_holds_160 : decode cL_holds 160 = .ok (.invokevirtual 18, 3) := by decide +kernel
theorem dL_holds_163 : decode cL_holds 163 = .ok (.iload_n 3, 1) := by decide +kernel
theorem dL_holds_164 : decode cL_holds 164 = .ok (.if_icmp .ne 63, 3) := by decide +kernel
theorem dL_holds_167 : decode cL_holds 167 = .ok (.aload_n 0, 1) := by decide +kernel
theorem dL_holds_168 : decode cL_holds 168 = .ok (.iload 7, 2) := by decide +kernel
theorem dL_holds_170 : decode cL_holds 170 = .ok (.iconst 1, 1) := by decide +kernel
theorem dL_holds_171 : decode cL_holds 171 = .ok (.invokevirtual 18, 3) := by decide +kernel
theorem dL_holds_174 : decode cL_holds 174 = .ok (.aload_n 0, 1) := by decide +kernel
theorem dL_holds_175 : decode cL_holds 175 = .ok (.iload 5, 2) := by decide +kernel
theorem dL_holds_177 : decode cL_holds 177 = .ok (.iconst 1, 1) := by decide +kernel
theorem dL_holds_178 : decode cL_holds 178 = .ok (.invokevirtual 18, 3) := by decide +kernel
theorem dL_holds_181 : decode cL_holds 181 = .ok (.if_icmp .gt 46, 3) := by decide +kernel
theorem dL_holds_184 : decode cL_holds 184 = .ok (.aload_n 0, 1) := by decide +kernel
theorem dL_holds_185 : decode cL_holds 185 = .ok (.iload 7, 2) := by decide +kernel
theorem dL_holds_187 : decode cL_holds 187 = .ok (.iconst 4, 1) := by decide +kernel
theorem dL_holds_188 : decode cL_holds 188 = .ok (.invokevirtual 18, 3) := by decide +kernel
theorem dL_holds_191 : decode cL_holds 191 = .ok (.iload 7, 2) := by decide +kernel
theorem dL_holds_193 : decode cL_holds 193 = .ok (.iload 5, 2) := by decide +kernel
theorem dL_holds_195 : decode cL_holds 195 = .ok (.if_icmp .ne 7, 3) := by decide +kernel
theorem dL_holds_198 : decode cL_holds 198 = .ok (.iconst 1, 1) := by decide +kernel
theorem dL_holds_199 : decode cL_holds 199 = .ok (.goto 4, 3) := by decide +kernel
theorem dL_holds_202 : decode cL_holds 202 = .ok (.iconst 0, 1) := by decide +kernel
theorem dL_holds_203 : decode cL_holds 203 = .ok (.if_icmp .ne 24, 3) := by decide +kernel
theorem dL_holds_206 : decode cL_holds 206 = .ok (.aload_n 0, 1) := by decide +kernel
theorem dL_holds_207 : decode cL_holds 207 = .ok (.iload 7, 2) := by decide +kernel
theorem dL_holds_209 : decode cL_holds 209 = .ok (.iconst 3, 1) := by decide +kernel
theorem dL_holds_210 : decode cL_holds 210 = .ok (.invokevirtual 18, 3) := by decide +kernel
theorem dL_holds_213 : decode cL_holds 213 = .ok (.ifCond .lt 14, 3) := by decide +kernel
theorem dL_holds_216 : decode cL_holds 216 = .ok (.aload_n 0, 1) := by decide +kernel
theorem dL_holds_217 : decode cL_holds 217 = .ok (.iload 7, 2) := by decide +kernel
theorem dL_holds_219 : decode cL_holds 219 = .ok (.invokevirtual 69, 3) := by decide +kernel
theorem dL_holds_222 : decode cL_holds 222 = .ok (.iload 7, 2) := by decide +kernel
theorem dL_holds_224 : decode cL_holds 224 = .ok (.if_icmp .ne 5, 3) := by decide +kernel
theorem dL_holds_227 : decode cL_holds 227 = .ok (.iconst 0, 1) := by decide +kernel
theorem dL_holds_228 : decode cL_holds 228 = .ok (.ireturn, 1) := by decide +kernel
theorem dL_holds_229 : decode cL_holds 229 = .ok (.iinc 7 1, 3) := by decide +kernel
theorem dL_holds_232 : decode cL_holds 232 = .ok (.goto (-106), 3) := by decide +kernel
theorem dL_holds_235 : decode cL_holds 235 = .ok (.iload 6, 2) := by decide +kernel
theorem dL_holds_237 : decode cL_holds 237 = .ok (.ifCond .lt 55, 3) := by decide +kernel
theorem dL_holds_240 : decode cL_holds 240 = .ok (.aload_n 0, 1) := by decide +kernel
theorem dL_holds_241 : decode cL_holds 241 = .ok (.iload_n 3, 1) := by decide +kernel
theorem dL_holds_242 : decode cL_holds 242 = .ok (.iconst 4, 1) := by decide +kernel
theorem dL_holds_243 : decode cL_holds 243 = .ok (.invokevirtual 25, 3) := by decide +kernel
theorem dL_holds_246 : decode cL_holds 246 = .ok (.aload_n 0, 1) := by decide +kernel
theorem dL_holds_247 : decode cL_holds 247 = .ok (.iload_n 3, 1) := by decide +kernel
theorem dL_holds_248 : decode cL_holds 248 = .ok (.iload 6, 2) := by decide +kernel
theorem dL_holds_250 : decode cL_holds 250 = .ok (.sipush 999, 3) := by decide +kernel
theorem dL_holds_253 : decode cL_holds 253 = .ok (.if_icmp .le 9, 3) := by decide +kernel
theorem dL_holds_256 : decode cL_holds 256 = .ok (.sipush 999, 3) := by decide +kernel
theorem dL_holds_259 : decode cL_holds 259 = .ok (.goto 5, 3) := by decide +kernel
theorem dL_holds_262 : decode cL_holds 262 = .ok (.iload 6, 2) := by decide +kernel
theorem dL_holds_264 : decode cL_holds 264 = .ok (.invokevirtual 72, 3) := by decide +kernel
theorem dL_holds_267 : decode cL_holds 267 = .ok (.if_icmp .ne 23, 3) := by decide +kernel
theorem dL_holds_270 : decode cL_holds 270 = .ok (.iload 6, 2) := by decide +kernel
theorem dL_holds_272 : decode cL_holds 272 = .ok (.aload_n 0, 1) := by decide +kernel
theorem dL_holds_273 : decode cL_holds 273 = .ok (.bipush 9, 2) := by decide +kernel
theorem dL_holds_275 : decode cL_holds 275 = .ok (.invokevirtual 12, 3) := by decide +kernel
theorem dL_holds_278 : decode cL_holds 278 = .ok (.if_icmp .ge 14, 3) := by decide +kernel
theorem dL_holds_281 : decode cL_holds 281 = .ok (.aload_n 0, 1) := by decide +kernel
theorem dL_holds_282 : decode cL_holds 282 = .ok (.iload_n 3, 1) := by decide +kernel
theorem dL_holds_283 : decode cL_holds 283 = .ok (.iconst 4, 1) := by decide +kernel
theorem dL_holds_284 : decode cL_holds 284 = .ok (.invokevirtual 25, 3) := by decide +kernel
theorem dL_holds_287 : decode cL_holds 287 = .ok (.ifCond .eq 5, 3) := by decide +kernel
theorem dL_holds_290 : decode cL_holds 290 = .ok (.iconst 0, 1) := by decide +kernel
theorem dL_holds_291 : decode cL_holds 291 = .ok (.ireturn, 1) := by decide +kernel
theorem dL_holds_292 : decode cL_holds 292 = .ok (.iinc 3 1, 3) := by decide +kernel
theorem dL_holds_295 : decode cL_holds 295 = .ok (.goto (-289), 3) := by decide +kernel
theorem dL_holds_298 : decode cL_holds 298 = .ok (.iconst 0, 1) := by decide +kernel
theorem dL_holds_299 : decode cL_holds 299 = .ok (.istore_n 3, 1) := by decide +kernel
theorem dL_holds_300 : decode cL_holds 300 = .ok (.iconst 1, 1) := by decide +kernel
theorem dL_holds_301 : decode cL_holds 301 = .ok (.istore 4, 2) := by decide +kernel
theorem dL_holds_303 : decode cL_holds 303 = .ok (.iload 4, 2) := by decide +kernel
theorem dL_holds_305 : decode cL_holds 305 = .ok (.bipush 12, 2) := by decide +kernel
theorem dL_holds_307 : decode cL_holds 307 = .ok (.if_icmp .ge 80, 3) := by decide +kernel
theorem dL_holds_310 : decode cL_holds 310 = .ok (.iload_n 3, 1) := by decide +kernel
theorem dL_holds_311 : decode cL_holds 311 = .ok (.aload_n 0, 1) := by decide +kernel
theorem dL_holds_312 : decode cL_holds 312 = .ok (.iload 4, 2) := by decide +kernel
theorem dL_holds_314 : decode cL_holds 314 = .ok (.iconst 0, 1) := by decide +kernel
theorem dL_holds_315 : decode cL_holds 315 = .ok (.invokevirtual 28, 3) := by decide +kernel
theorem dL_holds_318 : decode cL_holds 318 = .ok (.ifCond .le 10, 3) := by decide +kernel
theorem dL_holds_321 : decode cL_holds 321 = .ok (.iconst 1, 1) := by decide +kernel
theorem dL_holds_322 : decode cL_holds 322 = .ok (.iload 4, 2) := by decide +kernel
theorem dL_holds_324 : decode cL_holds 324 = .ok (.ishl, 1) := by decide +kernel
theorem dL_holds_325 : decode cL_holds 325 = .ok (.goto 4, 3) := by decide +kernel
theorem dL_holds_328 : decode cL_holds 328 = .ok (.iconst 0, 1) := by decide +kernel
theorem dL_holds_329 : decode cL_holds 329 = .ok (.ior, 1) := by decide +kernel
theorem dL_holds_330 : decode cL_holds 330 = .ok (.istore_n 3, 1) := by decide +kernel
theorem dL_holds_331 : decode cL_holds 331 = .ok (.aload_n 0, 1) := by decide +kernel
theorem dL_holds_332 : decode cL_holds 332 = .ok (.iload 4, 2) := by decide +kernel
theorem dL_holds_334 : decode cL_holds 334 = .ok (.iconst 0, 1) := by decide +kernel
theorem dL_holds_335 : decode cL_holds 335 = .ok (.invokevirtual 28, 3) := by decide +kernel
theorem dL_holds_338 : decode cL_holds 338 = .ok (.ifCond .le 7, 3) := by decide +kernel
theorem dL_holds_341 : decode cL_holds 341 = .ok (.iconst 1, 1) := by decide +kernel
theorem dL_holds_342 : decode cL_holds 342 = .ok (.goto 4, 3) := by decide +kernel
theorem dL_holds_345 : decode cL_holds 345 = .ok (.iconst 0, 1) := by decide +kernel
theorem dL_holds_346 : decode cL_holds 346 = .ok (.aload_n 0, 1) := by decide +kernel
theorem dL_holds_347 : decode cL_holds 347 = .ok (.iload 4, 2) := by decide +kernel
theorem dL_holds_349 : decode cL_holds 349 = .ok (.iconst 1, 1) := by decide +kernel
theorem dL_holds_350 : decode cL_holds 350 = .ok (.invokevirtual 28, 3) := by decide +kernel
theorem dL_holds_353 : decode cL_holds 353 = .ok (.ifCond .le 7, 3) := by decide +kernel
theorem dL_holds_356 : decode cL_holds 356 = .ok (.iconst 1, 1) := by decide +kernel
theorem dL_holds_357 : decode cL_holds 357 = .ok (.goto 4, 3) := by decide +kernel
theorem dL_holds_360 : decode cL_holds 360 = .ok (.iconst 0, 1) := by decide +kernel
theorem dL_holds_361 : decode cL_holds 361 = .ok (.if_icmp .ne 18, 3) := by decide +kernel
theorem dL_holds_364 : decode cL_holds 364 = .ok (.aload_n 0, 1) := by decide +kernel
theorem dL_holds_365 : decode cL_holds 365 = .ok (.iload 4, 2) := by decide +kernel
theorem dL_holds_367 : decode cL_holds 367 = .ok (.iconst 0, 1) := by decide +kernel
theorem dL_holds_368 : decode cL_holds 368 = .ok (.invokevirtual 28, 3) := by decide +kernel
theorem dL_holds_371 : decode cL_holds 371 = .ok (.aload_n 0, 1) := by decide +kernel
theorem dL_holds_372 : decode cL_holds 372 = .ok (.iconst 3, 1) := by decide +kernel
theorem dL_holds_373 : decode cL_holds 373 = .ok (.invokevirtual 12, 3) := by decide +kernel
theorem dL_holds_376 : decode cL_holds 376 = .ok (.if_icmp .le 5, 3) := by decide +kernel
theorem dL_holds_379 : decode cL_holds 379 = .ok (.iconst 0, 1) := by decide +kernel
theorem dL_holds_380 : decode cL_holds 380 = .ok (.ireturn, 1) := by decide +kernel
theorem dL_holds_381 : decode cL_holds 381 = .ok (.iinc 4 1, 3) := by decide +kernel
theorem dL_holds_384 : decode cL_holds 384 = .ok (.goto (-81), 3) := by decide +kernel
theorem dL_holds_387 : decode cL_holds 387 = .ok (.aload_n 0, 1) := by decide +kernel
theorem dL_holds_388 : decode cL_holds 388 = .ok (.invokevirtual 75, 3) := by decide +kernel
theorem dL_holds_391 : decode cL_holds 391 = .ok (.istore 4, 2) := by decide +kernel
theorem dL_holds_393 : decode cL_holds 393 = .ok (.iload 4, 2) := by decide +kernel
theorem dL_holds_395 : decode cL_holds 395 = .ok (.bipush (-6), 2) := by decide +kernel
theorem dL_holds_397 : decode cL_holds 397 = .ok (.if_icmp .ne 15, 3) := by decide +kernel
theorem dL_holds_400 : decode cL_holds 400 = .ok (.iload_n 3, 1) := by decide +kernel
theorem dL_holds_401 : decode cL_holds 401 = .ok (.ifCond .ne 7, 3) := by decide +kernel
theorem dL_holds_404 : decode cL_holds 404 = .ok (.iconst 1, 1) := by decide +kernel
theorem dL_holds_405 : decode cL_holds 405 = .ok (.goto 22, 3) := by decide +kernel
theorem dL_holds_408 : decode cL_holds 408 = .ok (.iconst 0, 1) := by decide +kernel
theorem dL_holds_409 : decode cL_holds 409 = .ok (.goto 18, 3) := by decide +kernel
theorem dL_holds_412 : decode cL_holds 412 = .ok (.iload_n 3, 1) := by decide +kernel
theorem dL_holds_413 : decode cL_holds 413 = .ok (.iload 4, 2) := by decide +kernel
theorem dL_holds_415 : decode cL_holds 415 = .ok (.ishr, 1) := by decide +kernel
theorem dL_holds_416 : decode cL_holds 416 = .ok (.iconst 1, 1) := by decide +kernel
theorem dL_holds_417 : decode cL_holds 417 = .ok (.iand, 1) := by decide +kernel
theorem dL_holds_418 : decode cL_holds 418 = .ok (.iconst 1, 1) := by decide +kernel
theorem dL_holds_419 : decode cL_holds 419 = .ok (.if_icmp .ne 7, 3) := by decide +kernel
theorem dL_holds_422 : decode cL_holds 422 = .ok (.iconst 1, 1) := by decide +kernel
theorem dL_holds_423 : decode cL_holds 423 = .ok (.goto 4, 3) := by decide +kernel
theorem dL_holds_426 : decode cL_holds 426 = .ok (.iconst 0, 1) := by decide +kernel
theorem dL_holds_427 : decode cL_holds 427 = .ok (.istore 5, 2) := by decide +kernel
theorem dL_holds_429 : decode cL_holds 429 = .ok (.iload 5, 2) := by decide +kernel
theorem dL_holds_431 : decode cL_holds 431 = .ok (.ifCond .eq 47, 3) := by decide +kernel
theorem dL_holds_434 : decode cL_holds 434 = .ok (.iload_n 1, 1) := by decide +kernel
theorem dL_holds_435 : decode cL_holds 435 = .ok (.aload_n 0, 1) := by decide +kernel
theorem dL_holds_436 : decode cL_holds 436 = .ok (.iconst 1, 1) := by decide +kernel
theorem dL_holds_437 : decode cL_holds 437 = .ok (.invokevirtual 12, 3) := by decide +kernel
theorem dL_holds_440 : decode cL_holds 440 = .ok (.if_icmp .ne 38, 3) := by decide +kernel
theorem dL_holds_443 : decode cL_holds 443 = .ok (.iload_n 3, 1) := by decide +kernel
theorem dL_holds_444 : decode cL_holds 444 = .ok (.aload_n 0, 1) := by decide +kernel
theorem dL_holds_445 : decode cL_holds 445 = .ok (.bipush 7, 2) := by decide +kernel
theorem dL_holds_447 : decode cL_holds 447 = .ok (.invokevirtual 12, 3) := by decide +kernel
theorem dL_holds_450 : decode cL_holds 450 = .ok (.if_icmp .ne 28, 3) := by decide +kernel
theorem dL_holds_453 : decode cL_holds 453 = .ok (.iload_n 2, 1) := by decide +kernel
theorem dL_holds_454 : decode cL_holds 454 = .ok (.aload_n 0, 1) := by decide +kernel
theorem dL_holds_455 : decode cL_holds 455 = .ok (.iconst 3, 1) := by decide +kernel
theorem dL_holds_456 : decode cL_holds 456 = .ok (.invokevirtual 12, 3) := by decide +kernel
theorem dL_holds_459 : decode cL_holds 459 = .ok (.aload_n 0, 1) := by decide +kernel
theorem dL_holds_460 : decode cL_holds 460 = .ok (.iconst 4, 1) := by decide +kernel
theorem dL_holds_461 : decode cL_holds 461 = .ok (.invokevirtual 12, 3) := by decide +kernel
theorem dL_holds_464 : decode cL_holds 464 = .ok (.iadd, 1) := by decide +kernel
theorem dL_holds_465 : decode cL_holds 465 = .ok (.aload_n 0, 1) := by decide +kernel
theorem dL_holds_466 : decode cL_holds 466 = .ok (.iconst 5, 1) := by decide +kernel
theorem dL_holds_467 : decode cL_holds 467 = .ok (.invokevirtual 12, 3) := by decide +kernel
theorem dL_holds_470 : decode cL_holds 470 = .ok (.iadd, 1) := by decide +kernel
theorem dL_holds_471 : decode cL_holds 471 = .ok (.if_icmp .ne 7, 3) := by decide +kernel
theorem dL_holds_474 : decode cL_holds 474 = .ok (.iconst 1, 1) := by decide +kernel
theorem dL_holds_475 : decode cL_holds 475 = .ok (.goto 4, 3) := by decide +kernel
theorem dL_holds_478 : decode cL_holds 478 = .ok (.iconst 0, 1) := by decide +kernel
theorem dL_holds_479 : decode cL_holds 479 = .ok (.ireturn, 1) := by decide +kernel
theorem dL_isBroken_0 : decode cL_isBroken 0 = .ok (.aload_n 0, 1) := by decide +kernel
theorem dL_isBroken_1 : decode cL_isBroken 1 = .ok (.bipush 7, 2) := by decide +kernel
theorem dL_isBroken_3 : decode cL_isBroken 3 = .ok (.invokevirtual 12, 3) := by decide +kernel
theorem dL_isBroken_6 : decode cL_isBroken 6 = .ok (.istore_n 3, 1) := by decide +kernel
theorem dL_isBroken_7 : decode cL_isBroken 7 = .ok (.aload_n 0, 1) := by decide +kernel
theorem dL_isBroken_8 : decode cL_isBroken 8 = .ok (.iconst 3, 1) := by decide +kernel
theorem dL_isBroken_9 : decode cL_isBroken 9 = .ok (.invokevirtual 12, 3) := by decide +kernel
theorem dL_isBroken_12 : decode cL_isBroken 12 = .ok (.istore 4, 2) := by decide +kernel
theorem dL_isBroken_14 : decode cL_isBroken 14 = .ok (.iconst 0, 1) := by decide +kernel
theorem dL_isBroken_15 : decode cL_isBroken 15 = .ok (.istore 5, 2) := by decide +kernel
theorem dL_isBroken_17 : decode cL_isBroken 17 = .ok (.iconst 1, 1) := by decide +kernel
theorem dL_isBroken_18 : decode cL_isBroken 18 = .ok (.istore 6, 2) := by decide +kernel
theorem dL_isBroken_20 : decode cL_isBroken 20 = .ok (.iload 6, 2) := by decide +kernel
theorem dL_isBroken_22 : decode cL_isBroken 22 = .ok (.bipush 12, 2) := by decide +kernel
theorem dL_isBroken_24 : decode cL_isBroken 24 = .ok (.if_icmp .ge 21, 3) := by decide +kernel
theorem dL_isBroken_27 : decode cL_isBroken 27 = .ok (.iload 5, 2) := by decide +kernel
theorem dL_isBroken_29 : decode cL_isBroken 29 = .ok (.aload_n 0, 1) := by decide +kernel
theorem dL_isBroken_30 : decode cL_isBroken 30 = .ok (.iload 6, 2) := by decide +kernel
theorem dL_isBroken_32 : decode cL_isBroken 32 = .ok (.iconst 0, 1) := by decide +kernel
theorem dL_isBroken_33 : decode cL_isBroken 33 = .ok (.invokevirtual 28, 3) := by decide +kernel
theorem dL_isBroken_36 : decode cL_isBroken 36 = .ok (.iadd, 1) := by decide +kernel
theorem dL_isBroken_37 : decode cL_isBroken 37 = .ok (.istore 5, 2) := by decide +kernel
theorem dL_isBroken_39 : decode cL_isBroken 39 = .ok (.iinc 6 1, 3) := by decide +kernel
theorem dL_isBroken_42 : decode cL_isBroken 42 = .ok (.goto (-22), 3) := by decide +kernel
theorem dL_isBroken_45 : decode cL_isBroken 45 = .ok (.aload_n 0, 1) := by decide +kernel
theorem dL_isBroken_46 : decode cL_isBroken 46 = .ok (.invokestatic 79, 3) := by decide +kernel
theorem dL_isBroken_49 : decode cL_isBroken 49 = .ok (.lstore 6, 2) := by decide +kernel
theorem dL_isBroken_51 : decode cL_isBroken 51 = .ok (.iload_n 2, 1) := by decide +kernel
theorem dL_isBroken_52 : decode cL_isBroken 52 = .ok (.ifCond .eq 11, 3) := by decide +kernel
theorem dL_isBroken_55 : decode cL_isBroken 55 = .ok (.aload_n 0, 1) := by decide +kernel
theorem dL_isBroken_56 : decode cL_isBroken 56 = .ok (.iload_n 1, 1) := by decide +kernel
theorem dL_isBroken_57 : decode cL_isBroken 57 = .ok (.invokevirtual 54, 3) := by decide +kernel
theorem dL_isBroken_60 : decode cL_isBroken 60 = .ok (.goto 8, 3) := by decide +kernel
theorem dL_isBroken_63 : decode cL_isBroken 63 = .ok (.aload_n 0, 1) := by decide +kernel
theorem dL_isBroken_64 : decode cL_isBroken 64 = .ok (.iload_n 1, 1) := by decide +kernel
theorem dL_isBroken_65 : decode cL_isBroken 65 = .ok (.invokevirtual 57, 3) := by decide +kernel
theorem dL_isBroken_68 : decode cL_isBroken 68 = .ok (.istore 8, 2) := by decide +kernel
theorem dL_isBroken_70 : decode cL_isBroken 70 = .ok (.iload 8, 2) := by decide +kernel
theorem dL_isBroken_72 : decode cL_isBroken 72 = .ok (.ifCond .ge 26, 3) := by decide +kernel
theorem dL_isBroken_75 : decode cL_isBroken 75 = .ok (.iload 8, 2) := by decide +kernel
theorem dL_isBroken_77 : decode cL_isBroken 77 = .ok (.bipush (-6), 2) := by decide +kernel
theorem dL_isBroken_79 : decode cL_isBroken 79 = .ok (.if_icmp .eq 19, 3) := by decide +kernel
theorem dL_isBroken_82 : decode cL_isBroken 82 = .ok (.aload_n 0, 1) := by decide +kernel
theorem dL_isBroken_83 : decode cL_isBroken 83 = .ok (.invokestatic 79, 3) := by decide +kernel
theorem dL_isBroken_86 : decode cL_isBroken 86 = .ok (.lload 6, 2) := by decide +kernel
theorem dL_isBroken_88 : decode cL_isBroken 88 = .ok (.lcmp, 1) := by decide +kernel
theorem dL_isBroken_89 : decode cL_isBroken 89 = .ok (.ifCond .ne 7, 3) := by decide +kernel
theorem dL_isBroken_92 : decode cL_isBroken 92 = .ok (.iconst 1, 1) := by decide +kernel
theorem dL_isBroken_93 : decode cL_isBroken 93 = .ok (.goto 4, 3) := by decide +kernel
theorem dL_isBroken_96 : decode cL_isBroken 96 = .ok (.iconst 0, 1) := by decide +kernel
theorem dL_isBroken_97 : decode cL_isBroken 97 = .ok (.ireturn, 1) := by decide +kernel
theorem dL_isBroken_98 : decode cL_isBroken 98 = .ok (.aload_n 0, 1) := by decide +kernel
theorem dL_isBroken_99 : decode cL_isBroken 99 = .ok (.bipush 7, 2) := by decide +kernel
theorem dL_isBroken_101 : decode cL_isBroken 101 = .ok (.invokevirtual 12, 3) := by decide +kernel
theorem dL_isBroken_104 : decode cL_isBroken 104 = .ok (.iload_n 3, 1) := by decide +kernel
theorem dL_isBroken_105 : decode cL_isBroken 105 = .ok (.if_icmp .ne 54, 3) := by decide +kernel
theorem dL_isBroken_108 : decode cL_isBroken 108 = .ok (.aload_n 0, 1) := by decide +kernel
theorem dL_isBroken_109 : decode cL_isBroken 109 = .ok (.iconst 3, 1) := by decide +kernel
theorem dL_isBroken_110 : decode cL_isBroken 110 = .ok (.invokevirtual 12, 3) := by decide +kernel
theorem dL_isBroken_113 : decode cL_isBroken 113 = .ok (.iload 4, 2) := by decide +kernel
theorem dL_isBroken_115 : decode cL_isBroken 115 = .ok (.if_icmp .ne 44, 3) := by decide +kernel
theorem dL_isBroken_118 : decode cL_isBroken 118 = .ok (.aload_n 0, 1) := by decide +kernel
theorem dL_isBroken_119 : decode cL_isBroken 119 = .ok (.iconst 0, 1) := by decide +kernel
theorem dL_isBroken_120 : decode cL_isBroken 120 = .ok (.iconst 0, 1) := by decide +kernel
theorem dL_isBroken_121 : decode cL_isBroken 121 = .ok (.invokevirtual 22, 3) := by decide +kernel
theorem dL_isBroken_124 : decode cL_isBroken 124 = .ok (.iload_n 2, 1) := by decide +kernel
theorem dL_isBroken_125 : decode cL_isBroken 125 = .ok (.ifCond .eq 7, 3) := by decide +kernel
theorem dL_isBroken_128 : decode cL_isBroken 128 = .ok (.iconst 1, 1) := by decide +kernel
theorem dL_isBroken_129 : decode cL_isBroken 129 = .ok (.goto 4, 3) := by decide +kernel
theorem dL_isBroken_132 : decode cL_isBroken 132 = .ok (.iconst 2, 1) := by decide +kernel
theorem dL_isBroken_133 : decode cL_isBroken 133 = .ok (.if_icmp .ne 26, 3) := by decide +kernel
theorem dL_isBroken_136 : decode cL_isBroken 136 = .ok (.aload_n 0, 1) := by decide +kernel
theorem dL_isBroken_137 : decode cL_isBroken 137 = .ok (.iconst 0, 1) := by decide +kernel
theorem dL_isBroken_138 : decode cL_isBroken 138 = .ok (.iconst 3, 1) := by decide +kernel
theorem dL_isBroken_139 : decode cL_isBroken 139 = .ok (.invokevirtual 22, 3) := by decide +kernel
theorem dL_isBroken_142 : decode cL_isBroken 142 = .ok (.ifCond .ne 17, 3) := by decide +kernel
theorem dL_isBroken_145 : decode cL_isBroken 145 = .ok (.aload_n 0, 1) := by decide +kernel
theorem dL_isBroken_146 : decode cL_isBroken 146 = .ok (.iconst 0, 1) := by decide +kernel
theorem dL_isBroken_147 : decode cL_isBroken 147 = .ok (.iconst 4, 1) := by decide +kernel
theorem dL_isBroken_148 : decode cL_isBroken 148 = .ok (.invokevirtual 22, 3) := by decide +kernel
theorem dL_isBroken_151 : decode cL_isBroken 151 = .ok (.iload_n 1, 1) := by decide +kernel
theorem dL_isBroken_152 : decode cL_isBroken 152 = .ok (.if_icmp .ne 7, 3) := by decide +kernel
theorem dL_isBroken_155 : decode cL_isBroken 155 = .ok (.iconst 1, 1) := by decide +kernel
theorem dL_isBroken_156 : decode cL_isBroken 156 = .ok (.goto 4, 3) := by decide +kernel
theorem dL_isBroken_159 : decode cL_isBroken 159 = .ok (.iconst 0, 1) := by decide +kernel
theorem dL_isBroken_160 : decode cL_isBroken 160 = .ok (.istore 9, 2) := by decide +kernel
theorem dL_isBroken_162 : decode cL_isBroken 162 = .ok (.iconst 1, 1) := by decide +kernel
theorem dL_isBroken_163 : decode cL_isBroken 163 = .ok (.istore 10, 2) := by decide +kernel
theorem dL_isBroken_165 : decode cL_isBroken 165 = .ok (.iload 10, 2) := by decide +kernel
theorem dL_isBroken_167 : decode cL_isBroken 167 = .ok (.bipush 12, 2) := by decide +kernel
theorem dL_isBroken_169 : decode cL_isBroken 169 = .ok (.if_icmp .ge 21, 3) := by decide +kernel
theorem dL_isBroken_172 : decode cL_isBroken 172 = .ok (.iload 5, 2) := by decide +kernel
theorem dL_isBroken_174 : decode cL_isBroken 174 = .ok (.aload_n 0, 1) := by decide +kernel
theorem dL_isBroken_175 : decode cL_isBroken 175 = .ok (.iload 10, 2) := by decide +kernel
theorem dL_isBroken_177 : decode cL_isBroken 177 = .ok (.iconst 0, 1) := by decide +kernel
theorem dL_isBroken_178 : decode cL_isBroken 178 = .ok (.invokevirtual 28, 3) := by decide +kernel
theorem dL_isBroken_181 : decode cL_isBroken 181 = .ok (.isub, 1) := by decide +kernel
theorem dL_isBroken_182 : decode cL_isBroken 182 = .ok (.istore 5, 2) := by decide +kernel
theorem dL_isBroken_184 : decode cL_isBroken 184 = .ok (.iinc 10 1, 3) := by decide +kernel
theorem dL_isBroken_187 : decode cL_isBroken 187 = .ok (.goto (-22), 3) := by decide +kernel
theorem dL_isBroken_190 : decode cL_isBroken 190 = .ok (.iload 9, 2) := by decide +kernel
theorem dL_isBroken_192 : decode cL_isBroken 192 = .ok (.ifCond .eq 29, 3) := by decide +kernel
theorem dL_isBroken_195 : decode cL_isBroken 195 = .ok (.iload 5, 2) := by decide +kernel
theorem dL_isBroken_197 : decode cL_isBroken 197 = .ok (.ifCond .ne 24, 3) := by decide +kernel
theorem dL_isBroken_200 : decode cL_isBroken 200 = .ok (.aload_n 0, 1) := by decide +kernel
theorem dL_isBroken_201 : decode cL_isBroken 201 = .ok (.invokevirtual 83, 3) := by decide +kernel
theorem dL_isBroken_204 : decode cL_isBroken 204 = .ok (.ifCond .lt 17, 3) := by decide +kernel
theorem dL_isBroken_207 : decode cL_isBroken 207 = .ok (.aload_n 0, 1) := by decide +kernel
theorem dL_isBroken_208 : decode cL_isBroken 208 = .ok (.invokestatic 79, 3) := by decide +kernel
theorem dL_isBroken_211 : decode cL_isBroken 211 = .ok (.lload 6, 2) := by decide +kernel
theorem dL_isBroken_213 : decode cL_isBroken 213 = .ok (.lcmp, 1) := by decide +kernel
theorem dL_isBroken_214 : decode cL_isBroken 214 = .ok (.ifCond .ne 7, 3) := by decide +kernel
theorem dL_isBroken_217 : decode cL_isBroken 217 = .ok (.iconst 1, 1) := by decide +kernel
theorem dL_isBroken_218 : decode cL_isBroken 218 = .ok (.goto 4, 3) := by decide +kernel
theorem dL_isBroken_221 : decode cL_isBroken 221 = .ok (.iconst 0, 1) := by decide +kernel
theorem dL_isBroken_222 : decode cL_isBroken 222 = .ok (.ireturn, 1) := by decide +kernel
theorem dL_law_0 : decode cL_law 0 = .ok (.new 13, 3) := by decide +kernel
theorem dL_law_3 : decode cL_law 3 = .ok (.dup, 1) := by decide +kernel
theorem dL_law_4 : decode cL_law 4 = .ok (.invokespecial 86, 3) := by decide +kernel
theorem dL_law_7 : decode cL_law 7 = .ok (.astore_n 1, 1) := by decide +kernel
theorem dL_law_8 : decode cL_law 8 = .ok (.aload_n 1, 1) := by decide +kernel
theorem dL_law_9 : decode cL_law 9 = .ok (.invokevirtual 83, 3) := by decide +kernel
theorem dL_law_12 : decode cL_law 12 = .ok (.bipush (-5), 2) := by decide +kernel
theorem dL_law_14 : decode cL_law 14 = .ok (.if_icmp .ne 40, 3) := by decide +kernel
theorem dL_law_17 : decode cL_law 17 = .ok (.aload_n 1, 1) := by decide +kernel
theorem dL_law_18 : decode cL_law 18 = .ok (.iconst 0, 1) := by decide +kernel
theorem dL_law_19 : decode cL_law 19 = .ok (.invokevirtual 39, 3) := by decide +kernel
theorem dL_law_22 : decode cL_law 22 = .ok (.bipush (-5), 2) := by decide +kernel
theorem dL_law_24 : decode cL_law 24 = .ok (.if_icmp .ne 30, 3) := by decide +kernel
theorem dL_law_27 : decode cL_law 27 = .ok (.aload_n 1, 1) := by decide +kernel
theorem dL_law_28 : decode cL_law 28 = .ok (.iconst 0, 1) := by decide +kernel
theorem dL_law_29 : decode cL_law 29 = .ok (.invokevirtual 87, 3) := by decide +kernel
theorem dL_law_32 : decode cL_law 32 = .ok (.ifCond .ne 22, 3) := by decide +kernel
theorem dL_law_35 : decode cL_law 35 = .ok (.aload_n 1, 1) := by decide +kernel
theorem dL_law_36 : decode cL_law 36 = .ok (.invokevirtual 75, 3) := by decide +kernel
theorem dL_law_39 : decode cL_law 39 = .ok (.bipush (-6), 2) := by decide +kernel
theorem dL_law_41 : decode cL_law 41 = .ok (.if_icmp .ne 13, 3) := by decide +kernel
theorem dL_law_44 : decode cL_law 44 = .ok (.aload_n 1, 1) := by decide +kernel
theorem dL_law_45 : decode cL_law 45 = .ok (.iconst 0, 1) := by decide +kernel
theorem dL_law_46 : decode cL_law 46 = .ok (.iconst 0, 1) := by decide +kernel
theorem dL_law_47 : decode cL_law 47 = .ok (.invokevirtual 22, 3) := by decide +kernel
theorem dL_law_50 : decode cL_law 50 = .ok (.iconst (-1), 1) := by decide +kernel
theorem dL_law_51 : decode cL_law 51 = .ok (.if_icmp .eq 5, 3) := by decide +kernel
theorem dL_law_54 : decode cL_law 54 = .ok (.iconst 0, 1) := by decide +kernel
theorem dL_law_55 : decode cL_law 55 = .ok (.ireturn, 1) := by decide +kernel
theorem dL_law_56 : decode cL_law 56 = .ok (.iconst 0, 1) := by decide +kernel
theorem dL_law_57 : decode cL_law 57 = .ok (.istore_n 2, 1) := by decide +kernel
theorem dL_law_58 : decode cL_law 58 = .ok (.iload_n 2, 1) := by decide +kernel
theorem dL_law_59 : decode cL_law 59 = .ok (.bipush 44, 2) := by decide +kernel
theorem dL_law_61 : decode cL_law 61 = .ok (.if_icmp .ge 260, 3) := by decide +kernel
theorem dL_law_64 : decode cL_law 64 = .ok (.aload_n 0, 1) := by decide +kernel
theorem dL_law_65 : decode cL_law 65 = .ok (.iconst 2, 1) := by decide +kernel
theorem dL_law_66 : decode cL_law 66 = .ok (.iload_n 2, 1) := by decide +kernel
theorem dL_law_67 : decode cL_law 67 = .ok (.imul, 1) := by decide +kernel
theorem dL_law_68 : decode cL_law 68 = .ok (.invokestatic 90, 3) := by decide +kernel
theorem dL_law_71 : decode cL_law 71 = .ok (.istore_n 3, 1) := by decide +kernel
theorem dL_law_72 : decode cL_law 72 = .ok (.iload_n 2, 1) := by decide +kernel
theorem dL_law_73 : decode cL_law 73 = .ok (.iconst 3, 1) := by decide +kernel
theorem dL_law_74 : decode cL_law 74 = .ok (.if_icmp .ge 10, 3) := by decide +kernel
theorem dL_law_77 : decode cL_law 77 = .ok (.iload_n 3, 1) := by decide +kernel
theorem dL_law_78 : decode cL_law 78 = .ok (.bipush (-16), 2) := by decide +kernel
theorem dL_law_80 : decode cL_law 80 = .ok (.iand, 1) := by decide +kernel
theorem dL_law_81 : decode cL_law 81 = .ok (.goto 4, 3) := by decide +kernel
theorem dL_law_84 : decode cL_law 84 = .ok (.iload_n 3, 1) := by decide +kernel
theorem dL_law_85 : decode cL_law 85 = .ok (.istore_n 3, 1) := by decide +kernel
theorem dL_law_86 : decode cL_law 86 = .ok (.aload_n 0, 1) := by decide +kernel
theorem dL_law_87 : decode cL_law 87 = .ok (.iconst 2, 1) := by decide +kernel
theorem dL_law_88 : decode cL_law 88 = .ok (.iload_n 2, 1) := by decide +kernel
theorem dL_law_89 : decode cL_law 89 = .ok (.imul, 1) := by decide +kernel
theorem dL_law_90 : decode cL_law 90 = .ok (.iconst 1, 1) := by decide +kernel
theorem dL_law_91 : decode cL_law 91 = .ok (.iadd, 1) := by decide +kernel
theorem dL_law_92 : decode cL_law 92 = .ok (.invokestatic 90, 3) := by decide +kernel
theorem dL_law_95 : decode cL_law 95 = .ok (.istore 4, 2) := by decide +kernel
theorem dL_law_97 : decode cL_law 97 = .ok (.iload_n 2, 1) := by decide +kernel
theorem dL_law_98 : decode cL_law 98 = .ok (.bipush 8, 2) := by decide +kernel
theorem dL_law_100 : decode cL_law 100 = .ok (.if_icmp .ne 9, 3) := by decide +kernel
theorem dL_law_103 : decode cL_law 103 = .ok (.aload_n 1, 1) := by decide +kernel
theorem dL_law_104 : decode cL_law 104 = .ok (.iconst 0, 1) := by decide +kernel
theorem dL_law_105 : decode cL_law 105 = .ok (.invokevirtual 87, 3) := by decide +kernel
theorem dL_law_108 : decode cL_law 108 = .ok (.pop, 1) := by decide +kernel
theorem dL_law_109 : decode cL_law 109 = .ok (.aload_n 1, 1) := by decide +kernel
theorem dL_law_110 : decode cL_law 110 = .ok (.invokestatic 79, 3) := by decide +kernel
theorem dL_law_113 : decode cL_law 113 = .ok (.lstore 5, 2) := by decide +kernel
theorem dL_law_115 : decode cL_law 115 = .ok (.aload_n 1, 1) := by decide +kernel
theorem dL_law_116 : decode cL_law 116 = .ok (.bipush 14, 2) := by decide +kernel
theorem dL_law_118 : decode cL_law 118 = .ok (.invokevirtual 12, 3) := by decide +kernel
theorem dL_law_121 : decode cL_law 121 = .ok (.istore 7, 2) := by decide +kernel
theorem dL_law_123 : decode cL_law 123 = .ok (.aload_n 1, 1) := by decide +kernel
theorem dL_law_124 : decode cL_law 124 = .ok (.iload_n 3, 1) := by decide +kernel
theorem dL_law_125 : decode cL_law 125 = .ok (.iload 4, 2) := by decide +kernel
theorem dL_law_127 : decode cL_law 127 = .ok (.invokestatic 94, 3) := by decide +kernel
theorem dL_law_130 : decode cL_law 130 = .ok (.istore 8, 2) := by decide +kernel
theorem dL_law_132 : decode cL_law 132 = .ok (.aload_n 1, 1) := by decide +kernel
theorem dL_law_133 : decode cL_law 133 = .ok (.invokestatic 79, 3) := by decide +kernel
theorem dL_law_136 : decode cL_law 136 = .ok (.lstore 9, 2) := by decide +kernel
theorem dL_law_138 : decode cL_law 138 = .ok (.iload 8, 2) := by decide +kernel
theorem dL_law_140 : decode cL_law 140 = .ok (.ifCond .ge 10, 3) := by decide +kernel
theorem dL_law_143 : decode cL_law 143 = .ok (.iload 8, 2) := by decide +kernel
theorem dL_law_145 : decode cL_law 145 = .ok (.bipush (-6), 2) := by decide +kernel
theorem dL_law_147 : decode cL_law 147 = .ok (.if_icmp .ne 7, 3) := by decide +kernel
theorem dL_law_150 : decode cL_law 150 = .ok (.iconst 1, 1) := by decide +kernel
theorem dL_law_151 : decode cL_law 151 = .ok (.goto 4, 3) := by decide +kernel
theorem dL_law_154 : decode cL_law 154 = .ok (.iconst 0, 1) := by decide +kernel
theorem dL_law_155 : decode cL_law 155 = .ok (.istore 11, 2) := by decide +kernel
theorem dL_law_157 : decode cL_law 157 = .ok (.iload 11, 2) := by decide +kernel
theorem dL_law_159 : decode cL_law 159 = .ok (.ifCond .ne 25, 3) := by decide +kernel
theorem dL_law_162 : decode cL_law 162 = .ok (.lload 9, 2) := by decide +kernel
theorem dL_law_164 : decode cL_law 164 = .ok (.lload 5, 2) := by decide +kernel
theorem dL_law_166 : decode cL_law 166 = .ok (.lcmp, 1) := by decide +kernel
theorem dL_law_167 : decode cL_law 167 = .ok (.ifCond .ne 42, 3) := by decide +kernel
theorem dL_law_170 : decode cL_law 170 = .ok (.aload_n 1, 1) := by decide +kernel
theorem dL_law_171 : decode cL_law 171 = .ok (.bipush 14, 2) := by decide +kernel
theorem dL_law_173 : decode cL_law 173 = .ok (.invokevirtual 12, 3) := by decide +kernel
theorem dL_law_176 : decode cL_law 176 = .ok (.iload 7, 2) := by decide +kernel
theorem dL_law_178 : decode cL_law 178 = .ok (.if_icmp .eq 33, 3) := by decide +kernel
theorem dL_law_181 : decode cL_law 181 = .ok (.goto 28, 3) := by decide +kernel
theorem dL_law_184 : decode cL_law 184 = .ok (.aload_n 1, 1) := by decide +kernel
theorem dL_law_185 : decode cL_law 185 = .ok (.bipush 14, 2) := by decide +kernel
theorem dL_law_187 : decode cL_law 187 = .ok (.invokevirtual 12, 3) := by decide +kernel
theorem dL_law_190 : decode cL_law 190 = .ok (.iload 7, 2) := by decide +kernel
theorem dL_law_192 : decode cL_law 192 = .ok (.bipush 6, 2) := by decide +kernel
theorem dL_law_194 : decode cL_law 194 = .ok (.if_icmp .ge 10, 3) := by decide +kernel
theorem dL_law_197 : decode cL_law 197 = .ok (.iload 7, 2) := by decide +kernel
theorem dL_law_199 : decode cL_law 199 = .ok (.iconst 1, 1) := by decide +kernel
theorem dL_law_200 : decode cL_law 200 = .ok (.iadd, 1) := by decide +kernel
theorem dL_law_201 : decode cL_law 201 = .ok (.goto 5, 3) := by decide +kernel
theorem dL_law_204 : decode cL_law 204 = .ok (.bipush 6, 2) := by decide +kernel
theorem dL_law_206 : decode cL_law 206 = .ok (.if_icmp .eq 5, 3) := by decide +kernel
theorem dL_law_209 : decode cL_law 209 = .ok (.iconst 0, 1) := by decide +kernel
theorem dL_law_210 : decode cL_law 210 = .ok (.ireturn, 1) := by decide +kernel
theorem dL_law_211 : decode cL_law 211 = .ok (.iload 11, 2) := by decide +kernel
theorem dL_law_213 : decode cL_law 213 = .ok (.ifCond .eq 65, 3) := by decide +kernel
theorem dL_law_216 : decode cL_law 216 = .ok (.iload_n 3, 1) := by decide +kernel
theorem dL_law_217 : decode cL_law 217 = .ok (.bipush 10, 2) := by decide +kernel
theorem dL_law_219 : decode cL_law 219 = .ok (.ishr, 1) := by decide +kernel
theorem dL_law_220 : decode cL_law 220 = .ok (.iconst 1, 1) := by decide +kernel
theorem dL_law_221 : decode cL_law 221 = .ok (.iand, 1) := by decide +kernel
theorem dL_law_222 : decode cL_law 222 = .ok (.ifCond .ne 56, 3) := by decide +kernel
theorem dL_law_225 : decode cL_law 225 = .ok (.aload_n 1, 1) := by decide +kernel
theorem dL_law_226 : decode cL_law 226 = .ok (.bipush 14, 2) := by decide +kernel
theorem dL_law_228 : decode cL_law 228 = .ok (.invokevirtual 12, 3) := by decide +kernel
theorem dL_law_231 : decode cL_law 231 = .ok (.iconst 1, 1) := by decide +kernel
theorem dL_law_232 : decode cL_law 232 = .ok (.isub, 1) := by decide +kernel
theorem dL_law_233 : decode cL_law 233 = .ok (.istore 12, 2) := by decide +kernel
theorem dL_law_235 : decode cL_law 235 = .ok (.aload_n 1, 1) := by decide +kernel
theorem dL_law_236 : decode cL_law 236 = .ok (.invokevirtual 83, 3) := by decide +kernel
theorem dL_law_239 : decode cL_law 239 = .ok (.iload 12, 2) := by decide +kernel
theorem dL_law_241 : decode cL_law 241 = .ok (.if_icmp .ne 35, 3) := by decide +kernel
theorem dL_law_244 : decode cL_law 244 = .ok (.aload_n 1, 1) := by decide +kernel
theorem dL_law_245 : decode cL_law 245 = .ok (.invokestatic 79, 3) := by decide +kernel
theorem dL_law_248 : decode cL_law 248 = .ok (.lload 5, 2) := by decide +kernel
theorem dL_law_250 : decode cL_law 250 = .ok (.lcmp, 1) := by decide +kernel
theorem dL_law_251 : decode cL_law 251 = .ok (.ifCond .ne 25, 3) := by decide +kernel
theorem dL_law_254 : decode cL_law 254 = .ok (.aload_n 1, 1) := by decide +kernel
theorem dL_law_255 : decode cL_law 255 = .ok (.iload_n 3, 1) := by decide +kernel
theorem dL_law_256 : decode cL_law 256 = .ok (.iload 4, 2) := by decide +kernel
theorem dL_law_258 : decode cL_law 258 = .ok (.invokestatic 94, 3) := by decide +kernel
theorem dL_law_261 : decode cL_law 261 = .ok (.iload 8, 2) := by decide +kernel
theorem dL_law_263 : decode cL_law 263 = .ok (.if_icmp .ne 13, 3) := by decide +kernel
theorem dL_law_266 : decode cL_law 266 = .ok (.aload_n 1, 1) := by decide +kernel
theorem dL_law_267 : decode cL_law 267 = .ok (.invokestatic 79, 3) := by decide +kernel
theorem dL_law_270 : decode cL_law 270 = .ok (.lload 9, 2) := by decide +kernel
theorem dL_law_272 : decode cL_law 272 = .ok (.lcmp, 1) := by decide +kernel
theorem dL_law_273 : decode cL_law 273 = .ok (.ifCond .eq 5, 3) := by decide +kernel
theorem dL_law_276 : decode cL_law 276 = .ok (.iconst 0, 1) := by decide +kernel
theorem dL_law_277 : decode cL_law 277 = .ok (.ireturn, 1) := by decide +kernel
theorem dL_law_278 : decode cL_law 278 = .ok (.aload_n 1, 1) := by decide +kernel
theorem dL_law_279 : decode cL_law 279 = .ok (.invokestatic 98, 3) := by decide +kernel
theorem dL_law_282 : decode cL_law 282 = .ok (.ifCond .eq 31, 3) := by decide +kernel
theorem dL_law_285 : decode cL_law 285 = .ok (.aload_n 1, 1) := by decide +kernel
theorem dL_law_286 : decode cL_law 286 = .ok (.iload 4, 2) := by decide +kernel
theorem dL_law_288 : decode cL_law 288 = .ok (.iconst 2, 1) := by decide +kernel
theorem dL_law_289 : decode cL_law 289 = .ok (.ishr, 1) := by decide +kernel
theorem dL_law_290 : decode cL_law 290 = .ok (.bipush 10, 2) := by decide +kernel
theorem dL_law_292 : decode cL_law 292 = .ok (.invokestatic 31, 3) := by decide +kernel
theorem dL_law_295 : decode cL_law 295 = .ok (.iload 4, 2) := by decide +kernel
theorem dL_law_297 : decode cL_law 297 = .ok (.iconst 1, 1) := by decide +kernel
theorem dL_law_298 : decode cL_law 298 = .ok (.iand, 1) := by decide +kernel
theorem dL_law_299 : decode cL_law 299 = .ok (.ifCond .ne 7, 3) := by decide +kernel
theorem dL_law_302 : decode cL_law 302 = .ok (.iconst 1, 1) := by decide +kernel
theorem dL_law_303 : decode cL_law 303 = .ok (.goto 4, 3) := by decide +kernel
theorem dL_law_306 : decode cL_law 306 = .ok (.iconst 0, 1) := by decide +kernel
theorem dL_law_307 : decode cL_law 307 = .ok (.invokestatic 102, 3) := by decide +kernel
theorem dL_law_310 : decode cL_law 310 = .ok (.ifCond .ne 5, 3) := by decide +kernel
theorem dL_law_313 : decode cL_law 313 = .ok (.iconst 0, 1) := by decide +kernel
theorem dL_law_314 : decode cL_law 314 = .ok (.ireturn, 1) := by decide +kernel
theorem dL_law_315 : decode cL_law 315 = .ok (.iinc 2 1, 3) := by decide +kernel
theorem dL_law_318 : decode cL_law 318 = .ok (.goto (-260), 3) := by decide +kernel
theorem dL_law_321 : decode cL_law 321 = .ok (.iconst 1, 1) := by decide +kernel
theorem dL_law_322 : decode cL_law 322 = .ok (.ireturn, 1) := by decide +kernel
