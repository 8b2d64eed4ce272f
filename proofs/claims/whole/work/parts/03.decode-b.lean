theorem dX8_init_0 : decode cX8_init 0 = .ok (.aload_n 0, 1) := by decide +kernel
theorem dX8_init_1 : decode cX8_init 1 = .ok (.invokespecial 1, 3) := by decide +kernel
theorem dX8_init_4 : decode cX8_init 4 = .ok (.aload_n 0, 1) := by decide +kernel
theorem dX8_init_5 : decode cX8_init 5 = .ok (.bipush 20, 2) := by decide +kernel
theorem dX8_init_7 : decode cX8_init 7 = .ok (.newarray .int, 2) := by decide +kernel
theorem dX8_init_9 : decode cX8_init 9 = .ok (.putfield 7, 3) := by decide +kernel
theorem dX8_init_12 : decode cX8_init 12 = .ok (.aload_n 0, 1) := by decide +kernel
theorem dX8_init_13 : decode cX8_init 13 = .ok (.bipush 20, 2) := by decide +kernel
theorem dX8_init_15 : decode cX8_init 15 = .ok (.newarray .int, 2) := by decide +kernel
theorem dX8_init_17 : decode cX8_init 17 = .ok (.putfield 13, 3) := by decide +kernel
theorem dX8_init_20 : decode cX8_init 20 = .ok (.aload_n 0, 1) := by decide +kernel
theorem dX8_init_21 : decode cX8_init 21 = .ok (.sipush 5780, 3) := by decide +kernel
theorem dX8_init_24 : decode cX8_init 24 = .ok (.newarray .byte, 2) := by decide +kernel
theorem dX8_init_26 : decode cX8_init 26 = .ok (.putfield 16, 3) := by decide +kernel
theorem dX8_init_29 : decode cX8_init 29 = .ok (.aload_n 0, 1) := by decide +kernel
theorem dX8_init_30 : decode cX8_init 30 = .ok (.sipush 289, 3) := by decide +kernel
theorem dX8_init_33 : decode cX8_init 33 = .ok (.newarray .boolean, 2) := by decide +kernel
theorem dX8_init_35 : decode cX8_init 35 = .ok (.putfield 20, 3) := by decide +kernel
theorem dX8_init_38 : decode cX8_init 38 = .ok (.aload_n 0, 1) := by decide +kernel
theorem dX8_init_39 : decode cX8_init 39 = .ok (.sipush 256, 3) := by decide +kernel
theorem dX8_init_42 : decode cX8_init 42 = .ok (.newarray .int, 2) := by decide +kernel
theorem dX8_init_44 : decode cX8_init 44 = .ok (.putfield 24, 3) := by decide +kernel
theorem dX8_init_47 : decode cX8_init 47 = .ok (.aload_n 0, 1) := by decide +kernel
theorem dX8_init_48 : decode cX8_init 48 = .ok (.sipush 256, 3) := by decide +kernel
theorem dX8_init_51 : decode cX8_init 51 = .ok (.newarray .int, 2) := by decide +kernel
theorem dX8_init_53 : decode cX8_init 53 = .ok (.putfield 27, 3) := by decide +kernel
theorem dX8_init_56 : decode cX8_init 56 = .ok (.aload_n 0, 1) := by decide +kernel
theorem dX8_init_57 : decode cX8_init 57 = .ok (.sipush 256, 3) := by decide +kernel
theorem dX8_init_60 : decode cX8_init 60 = .ok (.newarray .int, 2) := by decide +kernel
theorem dX8_init_62 : decode cX8_init 62 = .ok (.putfield 30, 3) := by decide +kernel
theorem dX8_init_65 : decode cX8_init 65 = .ok (.aload_n 0, 1) := by decide +kernel
theorem dX8_init_66 : decode cX8_init 66 = .ok (.sipush 257, 3) := by decide +kernel
theorem dX8_init_69 : decode cX8_init 69 = .ok (.newarray .int, 2) := by decide +kernel
theorem dX8_init_71 : decode cX8_init 71 = .ok (.putfield 33, 3) := by decide +kernel
theorem dX8_init_74 : decode cX8_init 74 = .ok (.aload_n 0, 1) := by decide +kernel
theorem dX8_init_75 : decode cX8_init 75 = .ok (.sipush 256, 3) := by decide +kernel
theorem dX8_init_78 : decode cX8_init 78 = .ok (.newarray .int, 2) := by decide +kernel
theorem dX8_init_80 : decode cX8_init 80 = .ok (.putfield 36, 3) := by decide +kernel
theorem dX8_init_83 : decode cX8_init 83 = .ok (.aload_n 0, 1) := by decide +kernel
theorem dX8_init_84 : decode cX8_init 84 = .ok (.sipush 256, 3) := by decide +kernel
theorem dX8_init_87 : decode cX8_init 87 = .ok (.newarray .int, 2) := by decide +kernel
theorem dX8_init_89 : decode cX8_init 89 = .ok (.putfield 39, 3) := by decide +kernel
theorem dX8_init_92 : decode cX8_init 92 = .ok (.aload_n 0, 1) := by decide +kernel
theorem dX8_init_93 : decode cX8_init 93 = .ok (.sipush 200, 3) := by decide +kernel
theorem dX8_init_96 : decode cX8_init 96 = .ok (.newarray .int, 2) := by decide +kernel
theorem dX8_init_98 : decode cX8_init 98 = .ok (.putfield 42, 3) := by decide +kernel
theorem dX8_init_101 : decode cX8_init 101 = .ok (.aload_n 0, 1) := by decide +kernel
theorem dX8_init_102 : decode cX8_init 102 = .ok (.iconst (-1), 1) := by decide +kernel
theorem dX8_init_103 : decode cX8_init 103 = .ok (.putfield 45, 3) := by decide +kernel
theorem dX8_init_106 : decode cX8_init 106 = .ok (.aload_n 0, 1) := by decide +kernel
theorem dX8_init_107 : decode cX8_init 107 = .ok (.iconst (-1), 1) := by decide +kernel
theorem dX8_init_108 : decode cX8_init 108 = .ok (.putfield 49, 3) := by decide +kernel
theorem dX8_init_111 : decode cX8_init 111 = .ok (.aload_n 0, 1) := by decide +kernel
theorem dX8_init_112 : decode cX8_init 112 = .ok (.bipush 8, 2) := by decide +kernel
theorem dX8_init_114 : decode cX8_init 114 = .ok (.newarray .int, 2) := by decide +kernel
theorem dX8_init_116 : decode cX8_init 116 = .ok (.putfield 52, 3) := by decide +kernel
theorem dX8_init_119 : decode cX8_init 119 = .ok (.aload_n 0, 1) := by decide +kernel
theorem dX8_init_120 : decode cX8_init 120 = .ok (.bipush 8, 2) := by decide +kernel
theorem dX8_init_122 : decode cX8_init 122 = .ok (.newarray .int, 2) := by decide +kernel
theorem dX8_init_124 : decode cX8_init 124 = .ok (.putfield 55, 3) := by decide +kernel
theorem dX8_init_127 : decode cX8_init 127 = .ok (.aload_n 0, 1) := by decide +kernel
theorem dX8_init_128 : decode cX8_init 128 = .ok (.bipush 24, 2) := by decide +kernel
theorem dX8_init_130 : decode cX8_init 130 = .ok (.newarray .int, 2) := by decide +kernel
theorem dX8_init_132 : decode cX8_init 132 = .ok (.putfield 58, 3) := by decide +kernel
theorem dX8_init_135 : decode cX8_init 135 = .ok (.aload_n 0, 1) := by decide +kernel
theorem dX8_init_136 : decode cX8_init 136 = .ok (.bipush 8, 2) := by decide +kernel
theorem dX8_init_138 : decode cX8_init 138 = .ok (.newarray .boolean, 2) := by decide +kernel
theorem dX8_init_140 : decode cX8_init 140 = .ok (.putfield 61, 3) := by decide +kernel
theorem dX8_init_143 : decode cX8_init 143 = .ok (.aload_n 0, 1) := by decide +kernel
theorem dX8_init_144 : decode cX8_init 144 = .ok (.sipush 256, 3) := by decide +kernel
theorem dX8_init_147 : decode cX8_init 147 = .ok (.newarray .boolean, 2) := by decide +kernel
theorem dX8_init_149 : decode cX8_init 149 = .ok (.putfield 64, 3) := by decide +kernel
theorem dX8_init_152 : decode cX8_init 152 = .ok (.aload_n 0, 1) := by decide +kernel
theorem dX8_init_153 : decode cX8_init 153 = .ok (.sipush 289, 3) := by decide +kernel
theorem dX8_init_156 : decode cX8_init 156 = .ok (.newarray .boolean, 2) := by decide +kernel
theorem dX8_init_158 : decode cX8_init 158 = .ok (.putfield 67, 3) := by decide +kernel
theorem dX8_init_161 : decode cX8_init 161 = .ok (.aload_n 0, 1) := by decide +kernel
theorem dX8_init_162 : decode cX8_init 162 = .ok (.getfield 7, 3) := by decide +kernel
theorem dX8_init_165 : decode cX8_init 165 = .ok (.iconst 0, 1) := by decide +kernel
theorem dX8_init_166 : decode cX8_init 166 = .ok (.iload_n 1, 1) := by decide +kernel
theorem dX8_init_167 : decode cX8_init 167 = .ok (.iconst 1, 1) := by decide +kernel
theorem dX8_init_168 : decode cX8_init 168 = .ok (.if_icmp .ge 7, 3) := by decide +kernel
theorem dX8_init_171 : decode cX8_init 171 = .ok (.iconst 1, 1) := by decide +kernel
theorem dX8_init_172 : decode cX8_init 172 = .ok (.goto 15, 3) := by decide +kernel
theorem dX8_init_175 : decode cX8_init 175 = .ok (.iload_n 1, 1) := by decide +kernel
theorem dX8_init_176 : decode cX8_init 176 = .ok (.bipush 8, 2) := by decide +kernel
theorem dX8_init_178 : decode cX8_init 178 = .ok (.if_icmp .le 8, 3) := by decide +kernel
theorem dX8_init_181 : decode cX8_init 181 = .ok (.bipush 8, 2) := by decide +kernel
theorem dX8_init_183 : decode cX8_init 183 = .ok (.goto 4, 3) := by decide +kernel
theorem dX8_init_186 : decode cX8_init 186 = .ok (.iload_n 1, 1) := by decide +kernel
theorem dX8_init_187 : decode cX8_init 187 = .ok (.iastore, 1) := by decide +kernel
theorem dX8_init_188 : decode cX8_init 188 = .ok (.aload_n 0, 1) := by decide +kernel
theorem dX8_init_189 : decode cX8_init 189 = .ok (.getfield 13, 3) := by decide +kernel
theorem dX8_init_192 : decode cX8_init 192 = .ok (.iconst 0, 1) := by decide +kernel
theorem dX8_init_193 : decode cX8_init 193 = .ok (.iload_n 2, 1) := by decide +kernel
theorem dX8_init_194 : decode cX8_init 194 = .ok (.iconst 1, 1) := by decide +kernel
theorem dX8_init_195 : decode cX8_init 195 = .ok (.if_icmp .ge 7, 3) := by decide +kernel
theorem dX8_init_198 : decode cX8_init 198 = .ok (.iconst 1, 1) := by decide +kernel
theorem dX8_init_199 : decode cX8_init 199 = .ok (.goto 15, 3) := by decide +kernel
theorem dX8_init_202 : decode cX8_init 202 = .ok (.iload_n 2, 1) := by decide +kernel
theorem dX8_init_203 : decode cX8_init 203 = .ok (.bipush 8, 2) := by decide +kernel
theorem dX8_init_205 : decode cX8_init 205 = .ok (.if_icmp .le 8, 3) := by decide +kernel
theorem dX8_init_208 : decode cX8_init 208 = .ok (.bipush 8, 2) := by decide +kernel
theorem dX8_init_210 : decode cX8_init 210 = .ok (.goto 4, 3) := by decide +kernel
theorem dX8_init_213 : decode cX8_init 213 = .ok (.iload_n 2, 1) := by decide +kernel
theorem dX8_init_214 : decode cX8_init 214 = .ok (.iastore, 1) := by decide +kernel
theorem dX8_init_215 : decode cX8_init 215 = .ok (.return_, 1) := by decide +kernel
theorem dX8_isIn_0 : decode cX8_isIn 0 = .ok (.iload_n 0, 1) := by decide +kernel
theorem dX8_isIn_1 : decode cX8_isIn 1 = .ok (.iload_n 1, 1) := by decide +kernel
theorem dX8_isIn_2 : decode cX8_isIn 2 = .ok (.if_icmp .lt 12, 3) := by decide +kernel
theorem dX8_isIn_5 : decode cX8_isIn 5 = .ok (.iload_n 0, 1) := by decide +kernel
theorem dX8_isIn_6 : decode cX8_isIn 6 = .ok (.iload_n 2, 1) := by decide +kernel
theorem dX8_isIn_7 : decode cX8_isIn 7 = .ok (.if_icmp .gt 7, 3) := by decide +kernel
theorem dX8_isIn_10 : decode cX8_isIn 10 = .ok (.iconst 1, 1) := by decide +kernel
theorem dX8_isIn_11 : decode cX8_isIn 11 = .ok (.goto 4, 3) := by decide +kernel
theorem dX8_isIn_14 : decode cX8_isIn 14 = .ok (.iconst 0, 1) := by decide +kernel
theorem dX8_isIn_15 : decode cX8_isIn 15 = .ok (.ireturn, 1) := by decide +kernel
theorem dX8_cell_0 : decode cX8_cell 0 = .ok (.sipush 289, 3) := by decide +kernel
theorem dX8_cell_3 : decode cX8_cell 3 = .ok (.iload_n 0, 1) := by decide +kernel
theorem dX8_cell_4 : decode cX8_cell 4 = .ok (.imul, 1) := by decide +kernel
theorem dX8_cell_5 : decode cX8_cell 5 = .ok (.bipush 17, 2) := by decide +kernel
theorem dX8_cell_7 : decode cX8_cell 7 = .ok (.iload_n 2, 1) := by decide +kernel
theorem dX8_cell_8 : decode cX8_cell 8 = .ok (.imul, 1) := by decide +kernel
theorem dX8_cell_9 : decode cX8_cell 9 = .ok (.iadd, 1) := by decide +kernel
theorem dX8_cell_10 : decode cX8_cell 10 = .ok (.iload_n 1, 1) := by decide +kernel
theorem dX8_cell_11 : decode cX8_cell 11 = .ok (.iadd, 1) := by decide +kernel
theorem dX8_cell_12 : decode cX8_cell 12 = .ok (.ireturn, 1) := by decide +kernel
theorem dX8_isInner_0 : decode cX8_isInner 0 = .ok (.iload_n 2, 1) := by decide +kernel
theorem dX8_isInner_1 : decode cX8_isInner 1 = .ok (.iconst 1, 1) := by decide +kernel
theorem dX8_isInner_2 : decode cX8_isInner 2 = .ok (.iconst 2, 1) := by decide +kernel
theorem dX8_isInner_3 : decode cX8_isInner 3 = .ok (.aload_n 0, 1) := by decide +kernel
theorem dX8_isInner_4 : decode cX8_isInner 4 = .ok (.getfield 7, 3) := by decide +kernel
theorem dX8_isInner_7 : decode cX8_isInner 7 = .ok (.iload_n 1, 1) := by decide +kernel
theorem dX8_isInner_8 : decode cX8_isInner 8 = .ok (.iaload, 1) := by decide +kernel
theorem dX8_isInner_9 : decode cX8_isInner 9 = .ok (.imul, 1) := by decide +kernel
theorem dX8_isInner_10 : decode cX8_isInner 10 = .ok (.iconst 1, 1) := by decide +kernel
theorem dX8_isInner_11 : decode cX8_isInner 11 = .ok (.isub, 1) := by decide +kernel
theorem dX8_isInner_12 : decode cX8_isInner 12 = .ok (.invokestatic 70, 3) := by decide +kernel
theorem dX8_isInner_15 : decode cX8_isInner 15 = .ok (.ifCond .eq 34, 3) := by decide +kernel
theorem dX8_isInner_18 : decode cX8_isInner 18 = .ok (.iload_n 3, 1) := by decide +kernel
theorem dX8_isInner_19 : decode cX8_isInner 19 = .ok (.iconst 1, 1) := by decide +kernel
theorem dX8_isInner_20 : decode cX8_isInner 20 = .ok (.iconst 2, 1) := by decide +kernel
theorem dX8_isInner_21 : decode cX8_isInner 21 = .ok (.aload_n 0, 1) := by decide +kernel
theorem dX8_isInner_22 : decode cX8_isInner 22 = .ok (.getfield 13, 3) := by decide +kernel
theorem dX8_isInner_25 : decode cX8_isInner 25 = .ok (.iload_n 1, 1) := by decide +kernel
theorem dX8_isInner_26 : decode cX8_isInner 26 = .ok (.iaload, 1) := by decide +kernel
theorem dX8_isInner_27 : decode cX8_isInner 27 = .ok (.imul, 1) := by decide +kernel
theorem dX8_isInner_28 : decode cX8_isInner 28 = .ok (.iconst 1, 1) := by decide +kernel
theorem dX8_isInner_29 : decode cX8_isInner 29 = .ok (.isub, 1) := by decide +kernel
theorem dX8_isInner_30 : decode cX8_isInner 30 = .ok (.invokestatic 70, 3) := by decide +kernel
theorem dX8_isInner_33 : decode cX8_isInner 33 = .ok (.ifCond .eq 16, 3) := by decide +kernel
theorem dX8_isInner_36 : decode cX8_isInner 36 = .ok (.iload_n 2, 1) := by decide +kernel
theorem dX8_isInner_37 : decode cX8_isInner 37 = .ok (.iload_n 3, 1) := by decide +kernel
theorem dX8_isInner_38 : decode cX8_isInner 38 = .ok (.iadd, 1) := by decide +kernel
theorem dX8_isInner_39 : decode cX8_isInner 39 = .ok (.iconst 2, 1) := by decide +kernel
theorem dX8_isInner_40 : decode cX8_isInner 40 = .ok (.irem, 1) := by decide +kernel
theorem dX8_isInner_41 : decode cX8_isInner 41 = .ok (.iconst 1, 1) := by decide +kernel
theorem dX8_isInner_42 : decode cX8_isInner 42 = .ok (.if_icmp .ne 7, 3) := by decide +kernel
theorem dX8_isInner_45 : decode cX8_isInner 45 = .ok (.iconst 1, 1) := by decide +kernel
theorem dX8_isInner_46 : decode cX8_isInner 46 = .ok (.goto 4, 3) := by decide +kernel
theorem dX8_isInner_49 : decode cX8_isInner 49 = .ok (.iconst 0, 1) := by decide +kernel
theorem dX8_isInner_50 : decode cX8_isInner 50 = .ok (.ireturn, 1) := by decide +kernel
theorem dX8_set_0 : decode cX8_set 0 = .ok (.aload_n 0, 1) := by decide +kernel
theorem dX8_set_1 : decode cX8_set 1 = .ok (.iconst 0, 1) := by decide +kernel
theorem dX8_set_2 : decode cX8_set 2 = .ok (.iload_n 1, 1) := by decide +kernel
theorem dX8_set_3 : decode cX8_set 3 = .ok (.iload_n 2, 1) := by decide +kernel
theorem dX8_set_4 : decode cX8_set 4 = .ok (.invokevirtual 74, 3) := by decide +kernel
theorem dX8_set_7 : decode cX8_set 7 = .ok (.ifCond .eq 12, 3) := by decide +kernel
theorem dX8_set_10 : decode cX8_set 10 = .ok (.iload_n 3, 1) := by decide +kernel
theorem dX8_set_11 : decode cX8_set 11 = .ok (.iconst 0, 1) := by decide +kernel
theorem dX8_set_12 : decode cX8_set 12 = .ok (.iconst 2, 1) := by decide +kernel
theorem dX8_set_13 : decode cX8_set 13 = .ok (.invokestatic 70, 3) := by decide +kernel
theorem dX8_set_16 : decode cX8_set 16 = .ok (.ifCond .ne 5, 3) := by decide +kernel
theorem dX8_set_19 : decode cX8_set 19 = .ok (.iconst 0, 1) := by decide +kernel
theorem dX8_set_20 : decode cX8_set 20 = .ok (.ireturn, 1) := by decide +kernel
theorem dX8_set_21 : decode cX8_set 21 = .ok (.aload_n 0, 1) := by decide +kernel
theorem dX8_set_22 : decode cX8_set 22 = .ok (.getfield 16, 3) := by decide +kernel
theorem dX8_set_25 : decode cX8_set 25 = .ok (.iconst 0, 1) := by decide +kernel
theorem dX8_set_26 : decode cX8_set 26 = .ok (.iload_n 1, 1) := by decide +kernel
theorem dX8_set_27 : decode cX8_set 27 = .ok (.iload_n 2, 1) := by decide +kernel
theorem dX8_set_28 : decode cX8_set 28 = .ok (.invokestatic 77, 3) := by decide +kernel
theorem dX8_set_31 : decode cX8_set 31 = .ok (.iload_n 3, 1) := by decide +kernel
theorem dX8_set_32 : decode cX8_set 32 = .ok (.i2b, 1) := by decide +kernel
theorem dX8_set_33 : decode cX8_set 33 = .ok (.bastore, 1) := by decide +kernel
theorem dX8_set_34 : decode cX8_set 34 = .ok (.iconst 1, 1) := by decide +kernel
theorem dX8_set_35 : decode cX8_set 35 = .ok (.ireturn, 1) := by decide +kernel
theorem dX8_mirror_0 : decode cX8_mirror 0 = .ok (.aload_n 0, 1) := by decide +kernel
theorem dX8_mirror_1 : decode cX8_mirror 1 = .ok (.iconst 0, 1) := by decide +kernel
theorem dX8_mirror_2 : decode cX8_mirror 2 = .ok (.iload_n 1, 1) := by decide +kernel
theorem dX8_mirror_3 : decode cX8_mirror 3 = .ok (.iload_n 2, 1) := by decide +kernel
theorem dX8_mirror_4 : decode cX8_mirror 4 = .ok (.invokevirtual 74, 3) := by decide +kernel
theorem dX8_mirror_7 : decode cX8_mirror 7 = .ok (.ifCond .eq 17, 3) := by decide +kernel
theorem dX8_mirror_10 : decode cX8_mirror 10 = .ok (.aload_n 0, 1) := by decide +kernel
theorem dX8_mirror_11 : decode cX8_mirror 11 = .ok (.getfield 16, 3) := by decide +kernel
theorem dX8_mirror_14 : decode cX8_mirror 14 = .ok (.iconst 0, 1) := by decide +kernel
theorem dX8_mirror_15 : decode cX8_mirror 15 = .ok (.iload_n 1, 1) := by decide +kernel
theorem dX8_mirror_16 : decode cX8_mirror 16 = .ok (.iload_n 2, 1) := by decide +kernel
theorem dX8_mirror_17 : decode cX8_mirror 17 = .ok (.invokestatic 77, 3) := by decide +kernel
theorem dX8_mirror_20 : decode cX8_mirror 20 = .ok (.baload, 1) := by decide +kernel
theorem dX8_mirror_21 : decode cX8_mirror 21 = .ok (.goto 4, 3) := by decide +kernel
theorem dX8_mirror_24 : decode cX8_mirror 24 = .ok (.iconst (-1), 1) := by decide +kernel
theorem dX8_mirror_25 : decode cX8_mirror 25 = .ok (.ireturn, 1) := by decide +kernel
theorem dX8_pin_0 : decode cX8_pin 0 = .ok (.aload_n 0, 1) := by decide +kernel
theorem dX8_pin_1 : decode cX8_pin 1 = .ok (.iconst 0, 1) := by decide +kernel
theorem dX8_pin_2 : decode cX8_pin 2 = .ok (.iload_n 1, 1) := by decide +kernel
theorem dX8_pin_3 : decode cX8_pin 3 = .ok (.iload_n 2, 1) := by decide +kernel
theorem dX8_pin_4 : decode cX8_pin 4 = .ok (.invokevirtual 74, 3) := by decide +kernel
theorem dX8_pin_7 : decode cX8_pin 7 = .ok (.ifCond .ne 5, 3) := by decide +kernel
theorem dX8_pin_10 : decode cX8_pin 10 = .ok (.iconst 0, 1) := by decide +kernel
theorem dX8_pin_11 : decode cX8_pin 11 = .ok (.ireturn, 1) := by decide +kernel
theorem dX8_pin_12 : decode cX8_pin 12 = .ok (.aload_n 0, 1) := by decide +kernel
theorem dX8_pin_13 : decode cX8_pin 13 = .ok (.getfield 20, 3) := by decide +kernel
theorem dX8_pin_16 : decode cX8_pin 16 = .ok (.iconst 0, 1) := by decide +kernel
theorem dX8_pin_17 : decode cX8_pin 17 = .ok (.iload_n 1, 1) := by decide +kernel
theorem dX8_pin_18 : decode cX8_pin 18 = .ok (.iload_n 2, 1) := by decide +kernel
theorem dX8_pin_19 : decode cX8_pin 19 = .ok (.invokestatic 77, 3) := by decide +kernel
theorem dX8_pin_22 : decode cX8_pin 22 = .ok (.iload_n 3, 1) := by decide +kernel
theorem dX8_pin_23 : decode cX8_pin 23 = .ok (.bastore, 1) := by decide +kernel
theorem dX8_pin_24 : decode cX8_pin 24 = .ok (.iconst 1, 1) := by decide +kernel
theorem dX8_pin_25 : decode cX8_pin 25 = .ok (.ireturn, 1) := by decide +kernel
theorem dX8_squares_0 : decode cX8_squares 0 = .ok (.iconst 4, 1) := by decide +kernel
theorem dX8_squares_1 : decode cX8_squares 1 = .ok (.aload_n 0, 1) := by decide +kernel
theorem dX8_squares_2 : decode cX8_squares 2 = .ok (.getfield 7, 3) := by decide +kernel
theorem dX8_squares_5 : decode cX8_squares 5 = .ok (.iconst 0, 1) := by decide +kernel
theorem dX8_squares_6 : decode cX8_squares 6 = .ok (.iaload, 1) := by decide +kernel
theorem dX8_squares_7 : decode cX8_squares 7 = .ok (.imul, 1) := by decide +kernel
theorem dX8_squares_8 : decode cX8_squares 8 = .ok (.aload_n 0, 1) := by decide +kernel
theorem dX8_squares_9 : decode cX8_squares 9 = .ok (.getfield 13, 3) := by decide +kernel
theorem dX8_squares_12 : decode cX8_squares 12 = .ok (.iconst 0, 1) := by decide +kernel
theorem dX8_squares_13 : decode cX8_squares 13 = .ok (.iaload, 1) := by decide +kernel
theorem dX8_squares_14 : decode cX8_squares 14 = .ok (.imul, 1) := by decide +kernel
theorem dX8_squares_15 : decode cX8_squares 15 = .ok (.ireturn, 1) := by decide +kernel
theorem dX8_walkAll_0 : decode cX8_walkAll 0 = .ok (.aload_n 0, 1) := by decide +kernel
theorem dX8_walkAll_1 : decode cX8_walkAll 1 = .ok (.invokevirtual 81, 3) := by decide +kernel
theorem dX8_walkAll_4 : decode cX8_walkAll 4 = .ok (.istore_n 1, 1) := by decide +kernel
theorem dX8_walkAll_5 : decode cX8_walkAll 5 = .ok (.iconst 0, 1) := by decide +kernel
theorem dX8_walkAll_6 : decode cX8_walkAll 6 = .ok (.istore_n 2, 1) := by decide +kernel
theorem dX8_walkAll_7 : decode cX8_walkAll 7 = .ok (.iload_n 2, 1) := by decide +kernel
theorem dX8_walkAll_8 : decode cX8_walkAll 8 = .ok (.iload_n 1, 1) := by decide +kernel
theorem dX8_walkAll_9 : decode cX8_walkAll 9 = .ok (.if_icmp .ge 16, 3) := by decide +kernel
theorem dX8_walkAll_12 : decode cX8_walkAll 12 = .ok (.aload_n 0, 1) := by decide +kernel
theorem dX8_walkAll_13 : decode cX8_walkAll 13 = .ok (.getfield 24, 3) := by decide +kernel
theorem dX8_walkAll_16 : decode cX8_walkAll 16 = .ok (.iload_n 2, 1) := by decide +kernel
theorem dX8_walkAll_17 : decode cX8_walkAll 17 = .ok (.iconst (-1), 1) := by decide +kernel
theorem dX8_walkAll_18 : decode cX8_walkAll 18 = .ok (.iastore, 1) := by decide +kernel
theorem dX8_walkAll_19 : decode cX8_walkAll 19 = .ok (.iinc 2 1, 3) := by decide +kernel
theorem dX8_walkAll_22 : decode cX8_walkAll 22 = .ok (.goto (-15), 3) := by decide +kernel
theorem dX8_walkAll_25 : decode cX8_walkAll 25 = .ok (.aload_n 0, 1) := by decide +kernel
theorem dX8_walkAll_26 : decode cX8_walkAll 26 = .ok (.iconst 0, 1) := by decide +kernel
theorem dX8_walkAll_27 : decode cX8_walkAll 27 = .ok (.putfield 85, 3) := by decide +kernel
theorem dX8_walkAll_30 : decode cX8_walkAll 30 = .ok (.iconst 0, 1) := by decide +kernel
theorem dX8_walkAll_31 : decode cX8_walkAll 31 = .ok (.istore_n 2, 1) := by decide +kernel
theorem dX8_walkAll_32 : decode cX8_walkAll 32 = .ok (.iconst 0, 1) := by decide +kernel
theorem dX8_walkAll_33 : decode cX8_walkAll 33 = .ok (.istore_n 3, 1) := by decide +kernel
theorem dX8_walkAll_34 : decode cX8_walkAll 34 = .ok (.iload_n 3, 1) := by decide +kernel
theorem dX8_walkAll_35 : decode cX8_walkAll 35 = .ok (.iload_n 1, 1) := by decide +kernel
theorem dX8_walkAll_36 : decode cX8_walkAll 36 = .ok (.if_icmp .ge 48, 3) := by decide +kernel
theorem dX8_walkAll_39 : decode cX8_walkAll 39 = .ok (.aload_n 0, 1) := by decide +kernel
theorem dX8_walkAll_40 : decode cX8_walkAll 40 = .ok (.getfield 24, 3) := by decide +kernel
theorem dX8_walkAll_43 : decode cX8_walkAll 43 = .ok (.iload_n 3, 1) := by decide +kernel
theorem dX8_walkAll_44 : decode cX8_walkAll 44 = .ok (.iaload, 1) := by decide +kernel
theorem dX8_walkAll_45 : decode cX8_walkAll 45 = .ok (.ifCond .lt 6, 3) := by decide +kernel
theorem dX8_walkAll_48 : decode cX8_walkAll 48 = .ok (.goto 30, 3) := by decide +kernel
theorem dX8_walkAll_51 : decode cX8_walkAll 51 = .ok (.aload_n 0, 1) := by decide +kernel
theorem dX8_walkAll_52 : decode cX8_walkAll 52 = .ok (.getfield 33, 3) := by decide +kernel
theorem dX8_walkAll_55 : decode cX8_walkAll 55 = .ok (.aload_n 0, 1) := by decide +kernel
theorem dX8_walkAll_56 : decode cX8_walkAll 56 = .ok (.getfield 85, 3) := by decide +kernel
theorem dX8_walkAll_59 : decode cX8_walkAll 59 = .ok (.iload_n 2, 1) := by decide +kernel
theorem dX8_walkAll_60 : decode cX8_walkAll 60 = .ok (.iastore, 1) := by decide +kernel
theorem dX8_walkAll_61 : decode cX8_walkAll 61 = .ok (.aload_n 0, 1) := by decide +kernel
theorem dX8_walkAll_62 : decode cX8_walkAll 62 = .ok (.iload_n 3, 1) := by decide +kernel
theorem dX8_walkAll_63 : decode cX8_walkAll 63 = .ok (.iload_n 2, 1) := by decide +kernel
theorem dX8_walkAll_64 : decode cX8_walkAll 64 = .ok (.invokevirtual 88, 3) := by decide +kernel
theorem dX8_walkAll_67 : decode cX8_walkAll 67 = .ok (.istore_n 2, 1) := by decide +kernel
theorem dX8_walkAll_68 : decode cX8_walkAll 68 = .ok (.aload_n 0, 1) := by decide +kernel
theorem dX8_walkAll_69 : decode cX8_walkAll 69 = .ok (.dup, 1) := by decide +kernel
theorem dX8_walkAll_70 : decode cX8_walkAll 70 = .ok (.getfield 85, 3) := by decide +kernel
theorem dX8_walkAll_73 : decode cX8_walkAll 73 = .ok (.iconst 1, 1) := by decide +kernel
theorem dX8_walkAll_74 : decode cX8_walkAll 74 = .ok (.iadd, 1) := by decide +kernel
theorem dX8_walkAll_75 : decode cX8_walkAll 75 = .ok (.putfield 85, 3) := by decide +kernel
theorem dX8_walkAll_78 : decode cX8_walkAll 78 = .ok (.iinc 3 1, 3) := by decide +kernel
theorem dX8_walkAll_81 : decode cX8_walkAll 81 = .ok (.goto (-47), 3) := by decide +kernel
theorem dX8_walkAll_84 : decode cX8_walkAll 84 = .ok (.aload_n 0, 1) := by decide +kernel
theorem dX8_walkAll_85 : decode cX8_walkAll 85 = .ok (.getfield 33, 3) := by decide +kernel
theorem dX8_walkAll_88 : decode cX8_walkAll 88 = .ok (.aload_n 0, 1) := by decide +kernel
theorem dX8_walkAll_89 : decode cX8_walkAll 89 = .ok (.getfield 85, 3) := by decide +kernel
theorem dX8_walkAll_92 : decode cX8_walkAll 92 = .ok (.iload_n 2, 1) := by decide +kernel
theorem dX8_walkAll_93 : decode cX8_walkAll 93 = .ok (.iastore, 1) := by decide +kernel
theorem dX8_walkAll_94 : decode cX8_walkAll 94 = .ok (.return_, 1) := by decide +kernel
theorem dX8_walkOne_0 : decode cX8_walkOne 0 = .ok (.iconst 2, 1) := by decide +kernel
theorem dX8_walkOne_1 : decode cX8_walkOne 1 = .ok (.aload_n 0, 1) := by decide +kernel
theorem dX8_walkOne_2 : decode cX8_walkOne 2 = .ok (.getfield 7, 3) := by decide +kernel
theorem dX8_walkOne_5 : decode cX8_walkOne 5 = .ok (.iconst 0, 1) := by decide +kernel
theorem dX8_walkOne_6 : decode cX8_walkOne 6 = .ok (.iaload, 1) := by decide +kernel
theorem dX8_walkOne_7 : decode cX8_walkOne 7 = .ok (.imul, 1) := by decide +kernel
theorem dX8_walkOne_8 : decode cX8_walkOne 8 = .ok (.istore_n 3, 1) := by decide +kernel
theorem dX8_walkOne_9 : decode cX8_walkOne 9 = .ok (.iload_n 1, 1) := by decide +kernel
theorem dX8_walkOne_10 : decode cX8_walkOne 10 = .ok (.iload_n 3, 1) := by decide +kernel
theorem dX8_walkOne_11 : decode cX8_walkOne 11 = .ok (.irem, 1) := by decide +kernel
theorem dX8_walkOne_12 : decode cX8_walkOne 12 = .ok (.istore 4, 2) := by decide +kernel
theorem dX8_walkOne_14 : decode cX8_walkOne 14 = .ok (.iload_n 1, 1) := by decide +kernel
theorem dX8_walkOne_15 : decode cX8_walkOne 15 = .ok (.iload_n 3, 1) := by decide +kernel
theorem dX8_walkOne_16 : decode cX8_walkOne 16 = .ok (.idiv, 1) := by decide +kernel
theorem dX8_walkOne_17 : decode cX8_walkOne 17 = .ok (.istore 5, 2) := by decide +kernel
theorem dX8_walkOne_19 : decode cX8_walkOne 19 = .ok (.iconst 1, 1) := by decide +kernel
theorem dX8_walkOne_20 : decode cX8_walkOne 20 = .ok (.istore 6, 2) := by decide +kernel
theorem dX8_walkOne_22 : decode cX8_walkOne 22 = .ok (.iload 4, 2) := by decide +kernel
theorem dX8_walkOne_24 : decode cX8_walkOne 24 = .ok (.iload 5, 2) := by decide +kernel
theorem dX8_walkOne_26 : decode cX8_walkOne 26 = .ok (.iadd, 1) := by decide +kernel
theorem dX8_walkOne_27 : decode cX8_walkOne 27 = .ok (.iconst 2, 1) := by decide +kernel
theorem dX8_walkOne_28 : decode cX8_walkOne 28 = .ok (.irem, 1) := by decide +kernel
theorem dX8_walkOne_29 : decode cX8_walkOne 29 = .ok (.iconst 1, 1) := by decide +kernel
theorem dX8_walkOne_30 : decode cX8_walkOne 30 = .ok (.if_icmp .ne 7, 3) := by decide +kernel
theorem dX8_walkOne_33 : decode cX8_walkOne 33 = .ok (.iconst 1, 1) := by decide +kernel
theorem dX8_walkOne_34 : decode cX8_walkOne 34 = .ok (.goto 4, 3) := by decide +kernel
theorem dX8_walkOne_37 : decode cX8_walkOne 37 = .ok (.iconst (-1), 1) := by decide +kernel
theorem dX8_walkOne_38 : decode cX8_walkOne 38 = .ok (.istore 7, 2) := by decide +kernel
theorem dX8_walkOne_40 : decode cX8_walkOne 40 = .ok (.iload 4, 2) := by decide +kernel
theorem dX8_walkOne_42 : decode cX8_walkOne 42 = .ok (.istore 8, 2) := by decide +kernel
theorem dX8_walkOne_44 : decode cX8_walkOne 44 = .ok (.iload 7, 2) := by decide +kernel
theorem dX8_walkOne_46 : decode cX8_walkOne 46 = .ok (.iconst 1, 1) := by decide +kernel
theorem dX8_walkOne_47 : decode cX8_walkOne 47 = .ok (.if_icmp .ne 8, 3) := by decide +kernel
theorem dX8_walkOne_50 : decode cX8_walkOne 50 = .ok (.iload 5, 2) := by decide +kernel
theorem dX8_walkOne_52 : decode cX8_walkOne 52 = .ok (.goto 7, 3) := by decide +kernel
theorem dX8_walkOne_55 : decode cX8_walkOne 55 = .ok (.iload 5, 2) := by decide +kernel
theorem dX8_walkOne_57 : decode cX8_walkOne 57 = .ok (.iconst 1, 1) := by decide +kernel
theorem dX8_walkOne_58 : decode cX8_walkOne 58 = .ok (.iadd, 1) := by decide +kernel
theorem dX8_walkOne_59 : decode cX8_walkOne 59 = .ok (.istore 9, 2) := by decide +kernel
theorem dX8_walkOne_61 : decode cX8_walkOne 61 = .ok (.iload_n 2, 1) := by decide +kernel
theorem dX8_walkOne_62 : decode cX8_walkOne 62 = .ok (.istore 10, 2) := by decide +kernel
theorem dX8_walkOne_64 : decode cX8_walkOne 64 = .ok (.iload_n 1, 1) := by decide +kernel
theorem dX8_walkOne_65 : decode cX8_walkOne 65 = .ok (.istore 11, 2) := by decide +kernel
theorem dX8_walkOne_67 : decode cX8_walkOne 67 = .ok (.iconst 1, 1) := by decide +kernel
theorem dX8_walkOne_68 : decode cX8_walkOne 68 = .ok (.istore 12, 2) := by decide +kernel
theorem dX8_walkOne_70 : decode cX8_walkOne 70 = .ok (.iload 12, 2) := by decide +kernel
theorem dX8_walkOne_72 : decode cX8_walkOne 72 = .ok (.ifCond .ne 9, 3) := by decide +kernel
theorem dX8_walkOne_75 : decode cX8_walkOne 75 = .ok (.iload 11, 2) := by decide +kernel
theorem dX8_walkOne_77 : decode cX8_walkOne 77 = .ok (.iload_n 1, 1) := by decide +kernel
theorem dX8_walkOne_78 : decode cX8_walkOne 78 = .ok (.if_icmp .eq 180, 3) := by decide +kernel
theorem dX8_walkOne_81 : decode cX8_walkOne 81 = .ok (.iconst 0, 1) := by decide +kernel
theorem dX8_walkOne_82 : decode cX8_walkOne 82 = .ok (.istore 12, 2) := by decide +kernel
theorem dX8_walkOne_84 : decode cX8_walkOne 84 = .ok (.aload_n 0, 1) := by decide +kernel
theorem dX8_walkOne_85 : decode cX8_walkOne 85 = .ok (.getfield 24, 3) := by decide +kernel
theorem dX8_walkOne_88 : decode cX8_walkOne 88 = .ok (.iload 11, 2) := by decide +kernel
theorem dX8_walkOne_90 : decode cX8_walkOne 90 = .ok (.aload_n 0, 1) := by decide +kernel
theorem dX8_walkOne_91 : decode cX8_walkOne 91 = .ok (.getfield 85, 3) := by decide +kernel
theorem dX8_walkOne_94 : decode cX8_walkOne 94 = .ok (.iastore, 1) := by decide +kernel
theorem dX8_walkOne_95 : decode cX8_walkOne 95 = .ok (.aload_n 0, 1) := by decide +kernel
theorem dX8_walkOne_96 : decode cX8_walkOne 96 = .ok (.getfield 27, 3) := by decide +kernel
theorem dX8_walkOne_99 : decode cX8_walkOne 99 = .ok (.iload 11, 2) := by decide +kernel
theorem dX8_walkOne_101 : decode cX8_walkOne 101 = .ok (.iload 10, 2) := by decide +kernel
theorem dX8_walkOne_103 : decode cX8_walkOne 103 = .ok (.iload_n 2, 1) := by decide +kernel
theorem dX8_walkOne_104 : decode cX8_walkOne 104 = .ok (.isub, 1) := by decide +kernel
theorem dX8_walkOne_105 : decode cX8_walkOne 105 = .ok (.iastore, 1) := by decide +kernel
theorem dX8_walkOne_106 : decode cX8_walkOne 106 = .ok (.aload_n 0, 1) := by decide +kernel
theorem dX8_walkOne_107 : decode cX8_walkOne 107 = .ok (.getfield 30, 3) := by decide +kernel
theorem dX8_walkOne_110 : decode cX8_walkOne 110 = .ok (.iload 10, 2) := by decide +kernel
theorem dX8_walkOne_112 : decode cX8_walkOne 112 = .ok (.iload 11, 2) := by decide +kernel
theorem dX8_walkOne_114 : decode cX8_walkOne 114 = .ok (.iastore, 1) := by decide +kernel
theorem dX8_walkOne_115 : decode cX8_walkOne 115 = .ok (.iinc 10 1, 3) := by decide +kernel
theorem dX8_walkOne_118 : decode cX8_walkOne 118 = .ok (.iload 8, 2) := by decide +kernel
theorem dX8_walkOne_120 : decode cX8_walkOne 120 = .ok (.iload 6, 2) := by decide +kernel
theorem dX8_walkOne_122 : decode cX8_walkOne 122 = .ok (.iadd, 1) := by decide +kernel
theorem dX8_walkOne_123 : decode cX8_walkOne 123 = .ok (.istore 8, 2) := by decide +kernel
theorem dX8_walkOne_125 : decode cX8_walkOne 125 = .ok (.iload 9, 2) := by decide +kernel
theorem dX8_walkOne_127 : decode cX8_walkOne 127 = .ok (.iload 7, 2) := by decide +kernel
theorem dX8_walkOne_129 : decode cX8_walkOne 129 = .ok (.iadd, 1) := by decide +kernel
theorem dX8_walkOne_130 : decode cX8_walkOne 130 = .ok (.istore 9, 2) := by decide +kernel
theorem dX8_walkOne_132 : decode cX8_walkOne 132 = .ok (.aload_n 0, 1) := by decide +kernel
theorem dX8_walkOne_133 : decode cX8_walkOne 133 = .ok (.getfield 16, 3) := by decide +kernel
theorem dX8_walkOne_136 : decode cX8_walkOne 136 = .ok (.iconst 0, 1) := by decide +kernel
theorem dX8_walkOne_137 : decode cX8_walkOne 137 = .ok (.iload 8, 2) := by decide +kernel
theorem dX8_walkOne_139 : decode cX8_walkOne 139 = .ok (.iload 9, 2) := by decide +kernel
theorem dX8_walkOne_141 : decode cX8_walkOne 141 = .ok (.invokestatic 77, 3) := by decide +kernel
theorem dX8_walkOne_144 : decode cX8_walkOne 144 = .ok (.baload, 1) := by decide +kernel
theorem dX8_walkOne_145 : decode cX8_walkOne 145 = .ok (.istore 13, 2) := by decide +kernel
theorem dX8_walkOne_147 : decode cX8_walkOne 147 = .ok (.iload 8, 2) := by decide +kernel
theorem dX8_walkOne_149 : decode cX8_walkOne 149 = .ok (.ifCond .eq 27, 3) := by decide +kernel
theorem dX8_walkOne_152 : decode cX8_walkOne 152 = .ok (.iload 8, 2) := by decide +kernel
theorem dX8_walkOne_154 : decode cX8_walkOne 154 = .ok (.iload_n 3, 1) := by decide +kernel
theorem dX8_walkOne_155 : decode cX8_walkOne 155 = .ok (.if_icmp .eq 21, 3) := by decide +kernel
theorem dX8_walkOne_158 : decode cX8_walkOne 158 = .ok (.iload 13, 2) := by decide +kernel
theorem dX8_walkOne_160 : decode cX8_walkOne 160 = .ok (.iconst 1, 1) := by decide +kernel
theorem dX8_walkOne_161 : decode cX8_walkOne 161 = .ok (.if_icmp .ne 20, 3) := by decide +kernel
theorem dX8_walkOne_164 : decode cX8_walkOne 164 = .ok (.aload_n 0, 1) := by decide +kernel
theorem dX8_walkOne_165 : decode cX8_walkOne 165 = .ok (.iconst 0, 1) := by decide +kernel
theorem dX8_walkOne_166 : decode cX8_walkOne 166 = .ok (.iload 8, 2) := by decide +kernel
theorem dX8_walkOne_168 : decode cX8_walkOne 168 = .ok (.iload 9, 2) := by decide +kernel
theorem dX8_walkOne_170 : decode cX8_walkOne 170 = .ok (.invokevirtual 74, 3) := by decide +kernel
theorem dX8_walkOne_173 : decode cX8_walkOne 173 = .ok (.ifCond .eq 8, 3) := by decide +kernel
theorem dX8_walkOne_176 : decode cX8_walkOne 176 = .ok (.iload 6, 2) := by decide +kernel
theorem dX8_walkOne_178 : decode cX8_walkOne 178 = .ok (.ineg, 1) := by decide +kernel
theorem dX8_walkOne_179 : decode cX8_walkOne 179 = .ok (.istore 6, 2) := by decide +kernel
theorem dX8_walkOne_181 : decode cX8_walkOne 181 = .ok (.iload 9, 2) := by decide +kernel
theorem dX8_walkOne_183 : decode cX8_walkOne 183 = .ok (.ifCond .eq 34, 3) := by decide +kernel
theorem dX8_walkOne_186 : decode cX8_walkOne 186 = .ok (.iload 9, 2) := by decide +kernel
theorem dX8_walkOne_188 : decode cX8_walkOne 188 = .ok (.iconst 2, 1) := by decide +kernel
theorem dX8_walkOne_189 : decode cX8_walkOne 189 = .ok (.aload_n 0, 1) := by decide +kernel
theorem dX8_walkOne_190 : decode cX8_walkOne 190 = .ok (.getfield 13, 3) := by decide +kernel
theorem dX8_walkOne_193 : decode cX8_walkOne 193 = .ok (.iconst 0, 1) := by decide +kernel
theorem dX8_walkOne_194 : decode cX8_walkOne 194 = .ok (.iaload, 1) := by decide +kernel
theorem dX8_walkOne_195 : decode cX8_walkOne 195 = .ok (.imul, 1) := by decide +kernel
theorem dX8_walkOne_196 : decode cX8_walkOne 196 = .ok (.if_icmp .eq 21, 3) := by decide +kernel
theorem dX8_walkOne_199 : decode cX8_walkOne 199 = .ok (.iload 13, 2) := by decide +kernel
theorem dX8_walkOne_201 : decode cX8_walkOne 201 = .ok (.iconst 2, 1) := by decide +kernel
theorem dX8_walkOne_202 : decode cX8_walkOne 202 = .ok (.if_icmp .ne 20, 3) := by decide +kernel
theorem dX8_walkOne_205 : decode cX8_walkOne 205 = .ok (.aload_n 0, 1) := by decide +kernel
theorem dX8_walkOne_206 : decode cX8_walkOne 206 = .ok (.iconst 0, 1) := by decide +kernel
theorem dX8_walkOne_207 : decode cX8_walkOne 207 = .ok (.iload 8, 2) := by decide +kernel
theorem dX8_walkOne_209 : decode cX8_walkOne 209 = .ok (.iload 9, 2) := by decide +kernel
theorem dX8_walkOne_211 : decode cX8_walkOne 211 = .ok (.invokevirtual 74, 3) := by decide +kernel
theorem dX8_walkOne_214 : decode cX8_walkOne 214 = .ok (.ifCond .eq 8, 3) := by decide +kernel
theorem dX8_walkOne_217 : decode cX8_walkOne 217 = .ok (.iload 7, 2) := by decide +kernel
theorem dX8_walkOne_219 : decode cX8_walkOne 219 = .ok (.ineg, 1) := by decide +kernel
theorem dX8_walkOne_220 : decode cX8_walkOne 220 = .ok (.istore 7, 2) := by decide +kernel
theorem dX8_walkOne_222 : decode cX8_walkOne 222 = .ok (.iload_n 3, 1) := by decide +kernel
theorem dX8_walkOne_223 : decode cX8_walkOne 223 = .ok (.iload 7, 2) := by decide +kernel
theorem dX8_walkOne_225 : decode cX8_walkOne 225 = .ok (.ifCond .le 8, 3) := by decide +kernel
theorem dX8_walkOne_228 : decode cX8_walkOne 228 = .ok (.iload 9, 2) := by decide +kernel
theorem dX8_walkOne_230 : decode cX8_walkOne 230 = .ok (.goto 7, 3) := by decide +kernel
theorem dX8_walkOne_233 : decode cX8_walkOne 233 = .ok (.iload 9, 2) := by decide +kernel
theorem dX8_walkOne_235 : decode cX8_walkOne 235 = .ok (.iconst 1, 1) := by decide +kernel
theorem dX8_walkOne_236 : decode cX8_walkOne 236 = .ok (.isub, 1) := by decide +kernel
theorem dX8_walkOne_237 : decode cX8_walkOne 237 = .ok (.imul, 1) := by decide +kernel
theorem dX8_walkOne_238 : decode cX8_walkOne 238 = .ok (.iload 6, 2) := by decide +kernel
theorem dX8_walkOne_240 : decode cX8_walkOne 240 = .ok (.ifCond .le 8, 3) := by decide +kernel
theorem dX8_walkOne_243 : decode cX8_walkOne 243 = .ok (.iload 8, 2) := by decide +kernel
theorem dX8_walkOne_245 : decode cX8_walkOne 245 = .ok (.goto 7, 3) := by decide +kernel
theorem dX8_walkOne_248 : decode cX8_walkOne 248 = .ok (.iload 8, 2) := by decide +kernel
theorem dX8_walkOne_250 : decode cX8_walkOne 250 = .ok (.iconst 1, 1) := by decide +kernel
theorem dX8_walkOne_251 : decode cX8_walkOne 251 = .ok (.isub, 1) := by decide +kernel
theorem dX8_walkOne_252 : decode cX8_walkOne 252 = .ok (.iadd, 1) := by decide +kernel
theorem dX8_walkOne_253 : decode cX8_walkOne 253 = .ok (.istore 11, 2) := by decide +kernel
theorem dX8_walkOne_255 : decode cX8_walkOne 255 = .ok (.goto (-185), 3) := by decide +kernel
theorem dX8_walkOne_258 : decode cX8_walkOne 258 = .ok (.iload 10, 2) := by decide +kernel
theorem dX8_walkOne_260 : decode cX8_walkOne 260 = .ok (.ireturn, 1) := by decide +kernel
theorem dX8_lines_0 : decode cX8_lines 0 = .ok (.aload_n 0, 1) := by decide +kernel
theorem dX8_lines_1 : decode cX8_lines 1 = .ok (.invokevirtual 92, 3) := by decide +kernel
theorem dX8_lines_4 : decode cX8_lines 4 = .ok (.aload_n 0, 1) := by decide +kernel
theorem dX8_lines_5 : decode cX8_lines 5 = .ok (.getfield 85, 3) := by decide +kernel
theorem dX8_lines_8 : decode cX8_lines 8 = .ok (.ireturn, 1) := by decide +kernel
theorem dX8_isSquare_0 : decode cX8_isSquare 0 = .ok (.iload_n 1, 1) := by decide +kernel
theorem dX8_isSquare_1 : decode cX8_isSquare 1 = .ok (.iconst 0, 1) := by decide +kernel
theorem dX8_isSquare_2 : decode cX8_isSquare 2 = .ok (.aload_n 0, 1) := by decide +kernel
theorem dX8_isSquare_3 : decode cX8_isSquare 3 = .ok (.invokevirtual 81, 3) := by decide +kernel
theorem dX8_isSquare_6 : decode cX8_isSquare 6 = .ok (.iconst 1, 1) := by decide +kernel
theorem dX8_isSquare_7 : decode cX8_isSquare 7 = .ok (.isub, 1) := by decide +kernel
theorem dX8_isSquare_8 : decode cX8_isSquare 8 = .ok (.invokestatic 70, 3) := by decide +kernel
theorem dX8_isSquare_11 : decode cX8_isSquare 11 = .ok (.ireturn, 1) := by decide +kernel
theorem dX8_lineOf_0 : decode cX8_lineOf 0 = .ok (.aload_n 0, 1) := by decide +kernel
theorem dX8_lineOf_1 : decode cX8_lineOf 1 = .ok (.iload_n 1, 1) := by decide +kernel
theorem dX8_lineOf_2 : decode cX8_lineOf 2 = .ok (.invokevirtual 95, 3) := by decide +kernel
theorem dX8_lineOf_5 : decode cX8_lineOf 5 = .ok (.ifCond .ne 5, 3) := by decide +kernel
theorem dX8_lineOf_8 : decode cX8_lineOf 8 = .ok (.iconst (-1), 1) := by decide +kernel
theorem dX8_lineOf_9 : decode cX8_lineOf 9 = .ok (.ireturn, 1) := by decide +kernel
theorem dX8_lineOf_10 : decode cX8_lineOf 10 = .ok (.aload_n 0, 1) := by decide +kernel
theorem dX8_lineOf_11 : decode cX8_lineOf 11 = .ok (.invokevirtual 92, 3) := by decide +kernel
theorem dX8_lineOf_14 : decode cX8_lineOf 14 = .ok (.aload_n 0, 1) := by decide +kernel
theorem dX8_lineOf_15 : decode cX8_lineOf 15 = .ok (.getfield 24, 3) := by decide +kernel
theorem dX8_lineOf_18 : decode cX8_lineOf 18 = .ok (.iload_n 1, 1) := by decide +kernel
theorem dX8_lineOf_19 : decode cX8_lineOf 19 = .ok (.iaload, 1) := by decide +kernel
theorem dX8_lineOf_20 : decode cX8_lineOf 20 = .ok (.ireturn, 1) := by decide +kernel
theorem dX8_held_0 : decode cX8_held 0 = .ok (.iconst 0, 1) := by decide +kernel
theorem dX8_held_1 : decode cX8_held 1 = .ok (.istore 4, 2) := by decide +kernel
theorem dX8_held_3 : decode cX8_held 3 = .ok (.iconst 0, 1) := by decide +kernel
theorem dX8_held_4 : decode cX8_held 4 = .ok (.istore 5, 2) := by decide +kernel
theorem dX8_held_6 : decode cX8_held 6 = .ok (.iload 5, 2) := by decide +kernel
theorem dX8_held_8 : decode cX8_held 8 = .ok (.iconst 4, 1) := by decide +kernel
theorem dX8_held_9 : decode cX8_held 9 = .ok (.if_icmp .ge 54, 3) := by decide +kernel
theorem dX8_held_12 : decode cX8_held 12 = .ok (.iload 4, 2) := by decide +kernel
theorem dX8_held_14 : decode cX8_held 14 = .ok (.aload_n 0, 1) := by decide +kernel
theorem dX8_held_15 : decode cX8_held 15 = .ok (.getfield 24, 3) := by decide +kernel
theorem dX8_held_18 : decode cX8_held 18 = .ok (.iconst 2, 1) := by decide +kernel
theorem dX8_held_19 : decode cX8_held 19 = .ok (.aload_n 0, 1) := by decide +kernel
theorem dX8_held_20 : decode cX8_held 20 = .ok (.getfield 7, 3) := by decide +kernel
theorem dX8_held_23 : decode cX8_held 23 = .ok (.iconst 0, 1) := by decide +kernel
theorem dX8_held_24 : decode cX8_held 24 = .ok (.iaload, 1) := by decide +kernel
theorem dX8_held_25 : decode cX8_held 25 = .ok (.imul, 1) := by decide +kernel
theorem dX8_held_26 : decode cX8_held 26 = .ok (.iconst 2, 1) := by decide +kernel
theorem dX8_held_27 : decode cX8_held 27 = .ok (.iload_n 3, 1) := by decide +kernel
theorem dX8_held_28 : decode cX8_held 28 = .ok (.imul, 1) := by decide +kernel
theorem dX8_held_29 : decode cX8_held 29 = .ok (.iload 5, 2) := by decide +kernel
theorem dX8_held_31 : decode cX8_held 31 = .ok (.iconst 2, 1) := by decide +kernel
theorem dX8_held_32 : decode cX8_held 32 = .ok (.idiv, 1) := by decide +kernel
theorem dX8_held_33 : decode cX8_held 33 = .ok (.iadd, 1) := by decide +kernel
theorem dX8_held_34 : decode cX8_held 34 = .ok (.imul, 1) := by decide +kernel
theorem dX8_held_35 : decode cX8_held 35 = .ok (.iconst 2, 1) := by decide +kernel
theorem dX8_held_36 : decode cX8_held 36 = .ok (.iload_n 2, 1) := by decide +kernel
theorem dX8_held_37 : decode cX8_held 37 = .ok (.imul, 1) := by decide +kernel
theorem dX8_held_38 : decode cX8_held 38 = .ok (.iadd, 1) := by decide +kernel
theorem dX8_held_39 : decode cX8_held 39 = .ok (.iload 5, 2) := by decide +kernel
theorem dX8_held_41 : decode cX8_held 41 = .ok (.iconst 2, 1) := by decide +kernel
theorem dX8_held_42 : decode cX8_held 42 = .ok (.irem, 1) := by decide +kernel
theorem dX8_held_43 : decode cX8_held 43 = .ok (.iadd, 1) := by decide +kernel
theorem dX8_held_44 : decode cX8_held 44 = .ok (.iaload, 1) := by decide +kernel
theorem dX8_held_45 : decode cX8_held 45 = .ok (.iload_n 1, 1) := by decide +kernel
theorem dX8_held_46 : decode cX8_held 46 = .ok (.if_icmp .ne 7, 3) := by decide +kernel
theorem dX8_held_49 : decode cX8_held 49 = .ok (.iconst 1, 1) := by decide +kernel
theorem dX8_held_50 : decode cX8_held 50 = .ok (.goto 4, 3) := by decide +kernel
theorem dX8_held_53 : decode cX8_held 53 = .ok (.iconst 0, 1) := by decide +kernel
theorem dX8_held_54 : decode cX8_held 54 = .ok (.iadd, 1) := by decide +kernel
theorem dX8_held_55 : decode cX8_held 55 = .ok (.istore 4, 2) := by decide +kernel
theorem dX8_held_57 : decode cX8_held 57 = .ok (.iinc 5 1, 3) := by decide +kernel
theorem dX8_held_60 : decode cX8_held 60 = .ok (.goto (-54), 3) := by decide +kernel
theorem dX8_held_63 : decode cX8_held 63 = .ok (.iload 4, 2) := by decide +kernel
theorem dX8_held_65 : decode cX8_held 65 = .ok (.ireturn, 1) := by decide +kernel
theorem dX8_strand_0 : decode cX8_strand 0 = .ok (.iconst 2, 1) := by decide +kernel
theorem dX8_strand_1 : decode cX8_strand 1 = .ok (.aload_n 0, 1) := by decide +kernel
theorem dX8_strand_2 : decode cX8_strand 2 = .ok (.getfield 7, 3) := by decide +kernel
theorem dX8_strand_5 : decode cX8_strand 5 = .ok (.iconst 0, 1) := by decide +kernel
theorem dX8_strand_6 : decode cX8_strand 6 = .ok (.iaload, 1) := by decide +kernel
theorem dX8_strand_7 : decode cX8_strand 7 = .ok (.imul, 1) := by decide +kernel
theorem dX8_strand_8 : decode cX8_strand 8 = .ok (.istore 4, 2) := by decide +kernel
theorem dX8_strand_10 : decode cX8_strand 10 = .ok (.aload_n 0, 1) := by decide +kernel
theorem dX8_strand_11 : decode cX8_strand 11 = .ok (.getfield 16, 3) := by decide +kernel
theorem dX8_strand_14 : decode cX8_strand 14 = .ok (.iconst 0, 1) := by decide +kernel
theorem dX8_strand_15 : decode cX8_strand 15 = .ok (.iload_n 1, 1) := by decide +kernel
theorem dX8_strand_16 : decode cX8_strand 16 = .ok (.iload_n 2, 1) := by decide +kernel
theorem dX8_strand_17 : decode cX8_strand 17 = .ok (.invokestatic 77, 3) := by decide +kernel
theorem dX8_strand_20 : decode cX8_strand 20 = .ok (.baload, 1) := by decide +kernel
theorem dX8_strand_21 : decode cX8_strand 21 = .ok (.istore 5, 2) := by decide +kernel
theorem dX8_strand_23 : decode cX8_strand 23 = .ok (.iload_n 3, 1) := by decide +kernel
theorem dX8_strand_24 : decode cX8_strand 24 = .ok (.ifCond .ne 7, 3) := by decide +kernel
theorem dX8_strand_27 : decode cX8_strand 27 = .ok (.iconst 0, 1) := by decide +kernel
theorem dX8_strand_28 : decode cX8_strand 28 = .ok (.goto 24, 3) := by decide +kernel
theorem dX8_strand_31 : decode cX8_strand 31 = .ok (.iload 5, 2) := by decide +kernel
theorem dX8_strand_33 : decode cX8_strand 33 = .ok (.iconst 1, 1) := by decide +kernel
theorem dX8_strand_34 : decode cX8_strand 34 = .ok (.if_icmp .ne 7, 3) := by decide +kernel
theorem dX8_strand_37 : decode cX8_strand 37 = .ok (.iconst 1, 1) := by decide +kernel
theorem dX8_strand_38 : decode cX8_strand 38 = .ok (.goto 14, 3) := by decide +kernel
theorem dX8_strand_41 : decode cX8_strand 41 = .ok (.iload 5, 2) := by decide +kernel
theorem dX8_strand_43 : decode cX8_strand 43 = .ok (.iconst 2, 1) := by decide +kernel
theorem dX8_strand_44 : decode cX8_strand 44 = .ok (.if_icmp .ne 7, 3) := by decide +kernel
theorem dX8_strand_47 : decode cX8_strand 47 = .ok (.iconst 2, 1) := by decide +kernel
theorem dX8_strand_48 : decode cX8_strand 48 = .ok (.goto 4, 3) := by decide +kernel
theorem dX8_strand_51 : decode cX8_strand 51 = .ok (.iconst 1, 1) := by decide +kernel
theorem dX8_strand_52 : decode cX8_strand 52 = .ok (.istore 6, 2) := by decide +kernel
theorem dX8_strand_54 : decode cX8_strand 54 = .ok (.aload_n 0, 1) := by decide +kernel
theorem dX8_strand_55 : decode cX8_strand 55 = .ok (.getfield 24, 3) := by decide +kernel
theorem dX8_strand_58 : decode cX8_strand 58 = .ok (.iload 4, 2) := by decide +kernel
theorem dX8_strand_60 : decode cX8_strand 60 = .ok (.iload 6, 2) := by decide +kernel
theorem dX8_strand_62 : decode cX8_strand 62 = .ok (.iconst 2, 1) := by decide +kernel
theorem dX8_strand_63 : decode cX8_strand 63 = .ok (.if_icmp .ge 9, 3) := by decide +kernel
theorem dX8_strand_66 : decode cX8_strand 66 = .ok (.iload_n 2, 1) := by decide +kernel
theorem dX8_strand_67 : decode cX8_strand 67 = .ok (.iconst 1, 1) := by decide +kernel
theorem dX8_strand_68 : decode cX8_strand 68 = .ok (.isub, 1) := by decide +kernel
theorem dX8_strand_69 : decode cX8_strand 69 = .ok (.goto 4, 3) := by decide +kernel
theorem dX8_strand_72 : decode cX8_strand 72 = .ok (.iload_n 2, 1) := by decide +kernel
theorem dX8_strand_73 : decode cX8_strand 73 = .ok (.imul, 1) := by decide +kernel
theorem dX8_strand_74 : decode cX8_strand 74 = .ok (.iload 6, 2) := by decide +kernel
theorem dX8_strand_76 : decode cX8_strand 76 = .ok (.iconst 2, 1) := by decide +kernel
theorem dX8_strand_77 : decode cX8_strand 77 = .ok (.irem, 1) := by decide +kernel
theorem dX8_strand_78 : decode cX8_strand 78 = .ok (.ifCond .ne 9, 3) := by decide +kernel
theorem dX8_strand_81 : decode cX8_strand 81 = .ok (.iload_n 1, 1) := by decide +kernel
theorem dX8_strand_82 : decode cX8_strand 82 = .ok (.iconst 1, 1) := by decide +kernel
theorem dX8_strand_83 : decode cX8_strand 83 = .ok (.isub, 1) := by decide +kernel
theorem dX8_strand_84 : decode cX8_strand 84 = .ok (.goto 4, 3) := by decide +kernel
theorem dX8_strand_87 : decode cX8_strand 87 = .ok (.iload_n 1, 1) := by decide +kernel
theorem dX8_strand_88 : decode cX8_strand 88 = .ok (.iadd, 1) := by decide +kernel
theorem dX8_strand_89 : decode cX8_strand 89 = .ok (.iaload, 1) := by decide +kernel
theorem dX8_strand_90 : decode cX8_strand 90 = .ok (.ireturn, 1) := by decide +kernel
theorem dX8_line_0 : decode cX8_line 0 = .ok (.aload_n 0, 1) := by decide +kernel
theorem dX8_line_1 : decode cX8_line 1 = .ok (.invokevirtual 92, 3) := by decide +kernel
theorem dX8_line_4 : decode cX8_line 4 = .ok (.iload_n 1, 1) := by decide +kernel
theorem dX8_line_5 : decode cX8_line 5 = .ok (.iconst 0, 1) := by decide +kernel
theorem dX8_line_6 : decode cX8_line 6 = .ok (.aload_n 0, 1) := by decide +kernel
theorem dX8_line_7 : decode cX8_line 7 = .ok (.getfield 85, 3) := by decide +kernel
theorem dX8_line_10 : decode cX8_line 10 = .ok (.iconst 1, 1) := by decide +kernel
theorem dX8_line_11 : decode cX8_line 11 = .ok (.isub, 1) := by decide +kernel
theorem dX8_line_12 : decode cX8_line 12 = .ok (.invokestatic 70, 3) := by decide +kernel
theorem dX8_line_15 : decode cX8_line 15 = .ok (.ifCond .ne 5, 3) := by decide +kernel
theorem dX8_line_18 : decode cX8_line 18 = .ok (.iconst (-1), 1) := by decide +kernel
theorem dX8_line_19 : decode cX8_line 19 = .ok (.ireturn, 1) := by decide +kernel
theorem dX8_line_20 : decode cX8_line 20 = .ok (.iconst 0, 1) := by decide +kernel
theorem dX8_line_21 : decode cX8_line 21 = .ok (.istore_n 3, 1) := by decide +kernel
theorem dX8_line_22 : decode cX8_line 22 = .ok (.iload_n 2, 1) := by decide +kernel
theorem dX8_line_23 : decode cX8_line 23 = .ok (.tableswitch 213 0 4 #[33, 49, 61, 61, 133], 33) := by decide +kernel
theorem dX8_line_56 : decode cX8_line 56 = .ok (.aload_n 0, 1) := by decide +kernel
theorem dX8_line_57 : decode cX8_line 57 = .ok (.getfield 33, 3) := by decide +kernel
theorem dX8_line_60 : decode cX8_line 60 = .ok (.iload_n 1, 1) := by decide +kernel
theorem dX8_line_61 : decode cX8_line 61 = .ok (.iconst 1, 1) := by decide +kernel
theorem dX8_line_62 : decode cX8_line 62 = .ok (.iadd, 1) := by decide +kernel
theorem dX8_line_63 : decode cX8_line 63 = .ok (.iaload, 1) := by decide +kernel
theorem dX8_line_64 : decode cX8_line 64 = .ok (.aload_n 0, 1) := by decide +kernel
theorem dX8_line_65 : decode cX8_line 65 = .ok (.getfield 33, 3) := by decide +kernel
theorem dX8_line_68 : decode cX8_line 68 = .ok (.iload_n 1, 1) := by decide +kernel
theorem dX8_line_69 : decode cX8_line 69 = .ok (.iaload, 1) := by decide +kernel
theorem dX8_line_70 : decode cX8_line 70 = .ok (.isub, 1) := by decide +kernel
theorem dX8_line_71 : decode cX8_line 71 = .ok (.ireturn, 1) := by decide +kernel
theorem dX8_line_72 : decode cX8_line 72 = .ok (.aload_n 0, 1) := by decide +kernel
theorem dX8_line_73 : decode cX8_line 73 = .ok (.getfield 30, 3) := by decide +kernel
theorem dX8_line_76 : decode cX8_line 76 = .ok (.aload_n 0, 1) := by decide +kernel
theorem dX8_line_77 : decode cX8_line 77 = .ok (.getfield 33, 3) := by decide +kernel
theorem dX8_line_80 : decode cX8_line 80 = .ok (.iload_n 1, 1) := by decide +kernel
theorem dX8_line_81 : decode cX8_line 81 = .ok (.iaload, 1) := by decide +kernel
theorem dX8_line_82 : decode cX8_line 82 = .ok (.iaload, 1) := by decide +kernel
theorem dX8_line_83 : decode cX8_line 83 = .ok (.ireturn, 1) := by decide +kernel
theorem dX8_line_84 : decode cX8_line 84 = .ok (.iconst 0, 1) := by decide +kernel
theorem dX8_line_85 : decode cX8_line 85 = .ok (.istore 4, 2) := by decide +kernel
theorem dX8_line_87 : decode cX8_line 87 = .ok (.iload 4, 2) := by decide +kernel
theorem dX8_line_89 : decode cX8_line 89 = .ok (.aload_n 0, 1) := by decide +kernel
theorem dX8_line_90 : decode cX8_line 90 = .ok (.getfield 7, 3) := by decide +kernel
theorem dX8_line_93 : decode cX8_line 93 = .ok (.iconst 0, 1) := by decide +kernel
theorem dX8_line_94 : decode cX8_line 94 = .ok (.iaload, 1) := by decide +kernel
theorem dX8_line_95 : decode cX8_line 95 = .ok (.if_icmp .ge 59, 3) := by decide +kernel
theorem dX8_line_98 : decode cX8_line 98 = .ok (.iconst 0, 1) := by decide +kernel
theorem dX8_line_99 : decode cX8_line 99 = .ok (.istore 5, 2) := by decide +kernel
theorem dX8_line_101 : decode cX8_line 101 = .ok (.iload 5, 2) := by decide +kernel
theorem dX8_line_103 : decode cX8_line 103 = .ok (.aload_n 0, 1) := by decide +kernel
theorem dX8_line_104 : decode cX8_line 104 = .ok (.getfield 13, 3) := by decide +kernel
theorem dX8_line_107 : decode cX8_line 107 = .ok (.iconst 0, 1) := by decide +kernel
theorem dX8_line_108 : decode cX8_line 108 = .ok (.iaload, 1) := by decide +kernel
theorem dX8_line_109 : decode cX8_line 109 = .ok (.if_icmp .ge 39, 3) := by decide +kernel
theorem dX8_line_112 : decode cX8_line 112 = .ok (.iload_n 3, 1) := by decide +kernel
theorem dX8_line_113 : decode cX8_line 113 = .ok (.aload_n 0, 1) := by decide +kernel
theorem dX8_line_114 : decode cX8_line 114 = .ok (.iload_n 1, 1) := by decide +kernel
theorem dX8_line_115 : decode cX8_line 115 = .ok (.iload 4, 2) := by decide +kernel
theorem dX8_line_117 : decode cX8_line 117 = .ok (.iload 5, 2) := by decide +kernel
theorem dX8_line_119 : decode cX8_line 119 = .ok (.invokevirtual 99, 3) := by decide +kernel
theorem dX8_line_122 : decode cX8_line 122 = .ok (.iload_n 2, 1) := by decide +kernel
theorem dX8_line_123 : decode cX8_line 123 = .ok (.iconst 2, 1) := by decide +kernel
theorem dX8_line_124 : decode cX8_line 124 = .ok (.if_icmp .ne 7, 3) := by decide +kernel
theorem dX8_line_127 : decode cX8_line 127 = .ok (.iconst 4, 1) := by decide +kernel
theorem dX8_line_128 : decode cX8_line 128 = .ok (.goto 4, 3) := by decide +kernel
theorem dX8_line_131 : decode cX8_line 131 = .ok (.iconst 1, 1) := by decide +kernel
theorem dX8_line_132 : decode cX8_line 132 = .ok (.if_icmp .lt 7, 3) := by decide +kernel
theorem dX8_line_135 : decode cX8_line 135 = .ok (.iconst 1, 1) := by decide +kernel
theorem dX8_line_136 : decode cX8_line 136 = .ok (.goto 4, 3) := by decide +kernel
theorem dX8_line_139 : decode cX8_line 139 = .ok (.iconst 0, 1) := by decide +kernel
theorem dX8_line_140 : decode cX8_line 140 = .ok (.iadd, 1) := by decide +kernel
theorem dX8_line_141 : decode cX8_line 141 = .ok (.istore_n 3, 1) := by decide +kernel
theorem dX8_line_142 : decode cX8_line 142 = .ok (.iinc 5 1, 3) := by decide +kernel
theorem dX8_line_145 : decode cX8_line 145 = .ok (.goto (-44), 3) := by decide +kernel
theorem dX8_line_148 : decode cX8_line 148 = .ok (.iinc 4 1, 3) := by decide +kernel
theorem dX8_line_151 : decode cX8_line 151 = .ok (.goto (-64), 3) := by decide +kernel
theorem dX8_line_154 : decode cX8_line 154 = .ok (.iload_n 3, 1) := by decide +kernel
theorem dX8_line_155 : decode cX8_line 155 = .ok (.ireturn, 1) := by decide +kernel
theorem dX8_line_156 : decode cX8_line 156 = .ok (.iconst 0, 1) := by decide +kernel
theorem dX8_line_157 : decode cX8_line 157 = .ok (.istore 4, 2) := by decide +kernel
theorem dX8_line_159 : decode cX8_line 159 = .ok (.iload 4, 2) := by decide +kernel
theorem dX8_line_161 : decode cX8_line 161 = .ok (.bipush 17, 2) := by decide +kernel
theorem dX8_line_163 : decode cX8_line 163 = .ok (.if_icmp .ge 71, 3) := by decide +kernel
theorem dX8_line_166 : decode cX8_line 166 = .ok (.iconst 0, 1) := by decide +kernel
theorem dX8_line_167 : decode cX8_line 167 = .ok (.istore 5, 2) := by decide +kernel
theorem dX8_line_169 : decode cX8_line 169 = .ok (.iload 5, 2) := by decide +kernel
theorem dX8_line_171 : decode cX8_line 171 = .ok (.bipush 17, 2) := by decide +kernel
theorem dX8_line_173 : decode cX8_line 173 = .ok (.if_icmp .ge 55, 3) := by decide +kernel
theorem dX8_line_176 : decode cX8_line 176 = .ok (.iload_n 3, 1) := by decide +kernel
theorem dX8_line_177 : decode cX8_line 177 = .ok (.aload_n 0, 1) := by decide +kernel
theorem dX8_line_178 : decode cX8_line 178 = .ok (.iconst 0, 1) := by decide +kernel
theorem dX8_line_179 : decode cX8_line 179 = .ok (.iload 4, 2) := by decide +kernel
theorem dX8_line_181 : decode cX8_line 181 = .ok (.iload 5, 2) := by decide +kernel
theorem dX8_line_183 : decode cX8_line 183 = .ok (.invokevirtual 74, 3) := by decide +kernel
theorem dX8_line_186 : decode cX8_line 186 = .ok (.ifCond .eq 33, 3) := by decide +kernel
theorem dX8_line_189 : decode cX8_line 189 = .ok (.aload_n 0, 1) := by decide +kernel
theorem dX8_line_190 : decode cX8_line 190 = .ok (.iload 4, 2) := by decide +kernel
theorem dX8_line_192 : decode cX8_line 192 = .ok (.iload 5, 2) := by decide +kernel
theorem dX8_line_194 : decode cX8_line 194 = .ok (.iconst 0, 1) := by decide +kernel
theorem dX8_line_195 : decode cX8_line 195 = .ok (.invokevirtual 102, 3) := by decide +kernel
theorem dX8_line_198 : decode cX8_line 198 = .ok (.iload_n 1, 1) := by decide +kernel
theorem dX8_line_199 : decode cX8_line 199 = .ok (.if_icmp .ne 20, 3) := by decide +kernel
theorem dX8_line_202 : decode cX8_line 202 = .ok (.aload_n 0, 1) := by decide +kernel
theorem dX8_line_203 : decode cX8_line 203 = .ok (.iload 4, 2) := by decide +kernel
theorem dX8_line_205 : decode cX8_line 205 = .ok (.iload 5, 2) := by decide +kernel
theorem dX8_line_207 : decode cX8_line 207 = .ok (.iconst 1, 1) := by decide +kernel
theorem dX8_line_208 : decode cX8_line 208 = .ok (.invokevirtual 102, 3) := by decide +kernel
theorem dX8_line_211 : decode cX8_line 211 = .ok (.iload_n 1, 1) := by decide +kernel
theorem dX8_line_212 : decode cX8_line 212 = .ok (.if_icmp .ne 7, 3) := by decide +kernel
theorem dX8_line_215 : decode cX8_line 215 = .ok (.iconst 1, 1) := by decide +kernel
theorem dX8_line_216 : decode cX8_line 216 = .ok (.goto 4, 3) := by decide +kernel
theorem dX8_line_219 : decode cX8_line 219 = .ok (.iconst 0, 1) := by decide +kernel
theorem dX8_line_220 : decode cX8_line 220 = .ok (.iadd, 1) := by decide +kernel
theorem dX8_line_221 : decode cX8_line 221 = .ok (.istore_n 3, 1) := by decide +kernel
theorem dX8_line_222 : decode cX8_line 222 = .ok (.iinc 5 1, 3) := by decide +kernel
theorem dX8_line_225 : decode cX8_line 225 = .ok (.goto (-56), 3) := by decide +kernel
theorem dX8_line_228 : decode cX8_line 228 = .ok (.iinc 4 1, 3) := by decide +kernel
theorem dX8_line_231 : decode cX8_line 231 = .ok (.goto (-72), 3) := by decide +kernel
theorem dX8_line_234 : decode cX8_line 234 = .ok (.iload_n 3, 1) := by decide +kernel
theorem dX8_line_235 : decode cX8_line 235 = .ok (.ireturn, 1) := by decide +kernel
theorem dX8_line_236 : decode cX8_line 236 = .ok (.iconst (-1), 1) := by decide +kernel
theorem dX8_line_237 : decode cX8_line 237 = .ok (.ireturn, 1) := by decide +kernel
theorem dX8_walk_0 : decode cX8_walk 0 = .ok (.aload_n 0, 1) := by decide +kernel
theorem dX8_walk_1 : decode cX8_walk 1 = .ok (.invokevirtual 92, 3) := by decide +kernel
theorem dX8_walk_4 : decode cX8_walk 4 = .ok (.iload_n 1, 1) := by decide +kernel
theorem dX8_walk_5 : decode cX8_walk 5 = .ok (.iconst 0, 1) := by decide +kernel
theorem dX8_walk_6 : decode cX8_walk 6 = .ok (.aload_n 0, 1) := by decide +kernel
theorem dX8_walk_7 : decode cX8_walk 7 = .ok (.getfield 85, 3) := by decide +kernel
theorem dX8_walk_10 : decode cX8_walk 10 = .ok (.iconst 1, 1) := by decide +kernel
theorem dX8_walk_11 : decode cX8_walk 11 = .ok (.isub, 1) := by decide +kernel
theorem dX8_walk_12 : decode cX8_walk 12 = .ok (.invokestatic 70, 3) := by decide +kernel
theorem dX8_walk_15 : decode cX8_walk 15 = .ok (.ifCond .eq 44, 3) := by decide +kernel
theorem dX8_walk_18 : decode cX8_walk 18 = .ok (.iload_n 2, 1) := by decide +kernel
theorem dX8_walk_19 : decode cX8_walk 19 = .ok (.iconst 0, 1) := by decide +kernel
theorem dX8_walk_20 : decode cX8_walk 20 = .ok (.aload_n 0, 1) := by decide +kernel
theorem dX8_walk_21 : decode cX8_walk 21 = .ok (.getfield 33, 3) := by decide +kernel
theorem dX8_walk_24 : decode cX8_walk 24 = .ok (.iload_n 1, 1) := by decide +kernel
theorem dX8_walk_25 : decode cX8_walk 25 = .ok (.iconst 1, 1) := by decide +kernel
theorem dX8_walk_26 : decode cX8_walk 26 = .ok (.iadd, 1) := by decide +kernel
theorem dX8_walk_27 : decode cX8_walk 27 = .ok (.iaload, 1) := by decide +kernel
theorem dX8_walk_28 : decode cX8_walk 28 = .ok (.aload_n 0, 1) := by decide +kernel
theorem dX8_walk_29 : decode cX8_walk 29 = .ok (.getfield 33, 3) := by decide +kernel
theorem dX8_walk_32 : decode cX8_walk 32 = .ok (.iload_n 1, 1) := by decide +kernel
theorem dX8_walk_33 : decode cX8_walk 33 = .ok (.iaload, 1) := by decide +kernel
theorem dX8_walk_34 : decode cX8_walk 34 = .ok (.isub, 1) := by decide +kernel
theorem dX8_walk_35 : decode cX8_walk 35 = .ok (.iconst 1, 1) := by decide +kernel
theorem dX8_walk_36 : decode cX8_walk 36 = .ok (.isub, 1) := by decide +kernel
theorem dX8_walk_37 : decode cX8_walk 37 = .ok (.invokestatic 70, 3) := by decide +kernel
theorem dX8_walk_40 : decode cX8_walk 40 = .ok (.ifCond .eq 19, 3) := by decide +kernel
theorem dX8_walk_43 : decode cX8_walk 43 = .ok (.aload_n 0, 1) := by decide +kernel
theorem dX8_walk_44 : decode cX8_walk 44 = .ok (.getfield 30, 3) := by decide +kernel
theorem dX8_walk_47 : decode cX8_walk 47 = .ok (.aload_n 0, 1) := by decide +kernel
theorem dX8_walk_48 : decode cX8_walk 48 = .ok (.getfield 33, 3) := by decide +kernel
theorem dX8_walk_51 : decode cX8_walk 51 = .ok (.iload_n 1, 1) := by decide +kernel
theorem dX8_walk_52 : decode cX8_walk 52 = .ok (.iaload, 1) := by decide +kernel
theorem dX8_walk_53 : decode cX8_walk 53 = .ok (.iload_n 2, 1) := by decide +kernel
theorem dX8_walk_54 : decode cX8_walk 54 = .ok (.iadd, 1) := by decide +kernel
theorem dX8_walk_55 : decode cX8_walk 55 = .ok (.iaload, 1) := by decide +kernel
theorem dX8_walk_56 : decode cX8_walk 56 = .ok (.goto 4, 3) := by decide +kernel
theorem dX8_walk_59 : decode cX8_walk 59 = .ok (.iconst (-1), 1) := by decide +kernel
theorem dX8_walk_60 : decode cX8_walk 60 = .ok (.ireturn, 1) := by decide +kernel
theorem dX8_holds_0 : decode cX8_holds 0 = .ok (.aload_n 0, 1) := by decide +kernel
theorem dX8_holds_1 : decode cX8_holds 1 = .ok (.invokevirtual 92, 3) := by decide +kernel
theorem dX8_holds_4 : decode cX8_holds 4 = .ok (.iload_n 1, 1) := by decide +kernel
theorem dX8_holds_5 : decode cX8_holds 5 = .ok (.iconst 0, 1) := by decide +kernel
theorem dX8_holds_6 : decode cX8_holds 6 = .ok (.aload_n 0, 1) := by decide +kernel
theorem dX8_holds_7 : decode cX8_holds 7 = .ok (.getfield 85, 3) := by decide +kernel
theorem dX8_holds_10 : decode cX8_holds 10 = .ok (.iconst 1, 1) := by decide +kernel
theorem dX8_holds_11 : decode cX8_holds 11 = .ok (.isub, 1) := by decide +kernel
theorem dX8_holds_12 : decode cX8_holds 12 = .ok (.invokestatic 70, 3) := by decide +kernel
theorem dX8_holds_15 : decode cX8_holds 15 = .ok (.ifCond .eq 45, 3) := by decide +kernel
theorem dX8_holds_18 : decode cX8_holds 18 = .ok (.iload_n 2, 1) := by decide +kernel
theorem dX8_holds_19 : decode cX8_holds 19 = .ok (.iconst 0, 1) := by decide +kernel
theorem dX8_holds_20 : decode cX8_holds 20 = .ok (.aload_n 0, 1) := by decide +kernel
theorem dX8_holds_21 : decode cX8_holds 21 = .ok (.getfield 7, 3) := by decide +kernel
theorem dX8_holds_24 : decode cX8_holds 24 = .ok (.iconst 0, 1) := by decide +kernel
theorem dX8_holds_25 : decode cX8_holds 25 = .ok (.iaload, 1) := by decide +kernel
theorem dX8_holds_26 : decode cX8_holds 26 = .ok (.iconst 1, 1) := by decide +kernel
theorem dX8_holds_27 : decode cX8_holds 27 = .ok (.isub, 1) := by decide +kernel
theorem dX8_holds_28 : decode cX8_holds 28 = .ok (.invokestatic 70, 3) := by decide +kernel
theorem dX8_holds_31 : decode cX8_holds 31 = .ok (.ifCond .eq 29, 3) := by decide +kernel
theorem dX8_holds_34 : decode cX8_holds 34 = .ok (.iload_n 3, 1) := by decide +kernel
theorem dX8_holds_35 : decode cX8_holds 35 = .ok (.iconst 0, 1) := by decide +kernel
theorem dX8_holds_36 : decode cX8_holds 36 = .ok (.aload_n 0, 1) := by decide +kernel
theorem dX8_holds_37 : decode cX8_holds 37 = .ok (.getfield 13, 3) := by decide +kernel
theorem dX8_holds_40 : decode cX8_holds 40 = .ok (.iconst 0, 1) := by decide +kernel
theorem dX8_holds_41 : decode cX8_holds 41 = .ok (.iaload, 1) := by decide +kernel
theorem dX8_holds_42 : decode cX8_holds 42 = .ok (.iconst 1, 1) := by decide +kernel
theorem dX8_holds_43 : decode cX8_holds 43 = .ok (.isub, 1) := by decide +kernel
theorem dX8_holds_44 : decode cX8_holds 44 = .ok (.invokestatic 70, 3) := by decide +kernel
theorem dX8_holds_47 : decode cX8_holds 47 = .ok (.ifCond .eq 13, 3) := by decide +kernel
theorem dX8_holds_50 : decode cX8_holds 50 = .ok (.aload_n 0, 1) := by decide +kernel
theorem dX8_holds_51 : decode cX8_holds 51 = .ok (.iload_n 1, 1) := by decide +kernel
theorem dX8_holds_52 : decode cX8_holds 52 = .ok (.iload_n 2, 1) := by decide +kernel
theorem dX8_holds_53 : decode cX8_holds 53 = .ok (.iload_n 3, 1) := by decide +kernel
theorem dX8_holds_54 : decode cX8_holds 54 = .ok (.invokevirtual 99, 3) := by decide +kernel
theorem dX8_holds_57 : decode cX8_holds 57 = .ok (.goto 4, 3) := by decide +kernel
theorem dX8_holds_60 : decode cX8_holds 60 = .ok (.iconst (-1), 1) := by decide +kernel
theorem dX8_holds_61 : decode cX8_holds 61 = .ok (.ireturn, 1) := by decide +kernel
theorem dX8_colour_0 : decode cX8_colour 0 = .ok (.aload_n 0, 1) := by decide +kernel
theorem dX8_colour_1 : decode cX8_colour 1 = .ok (.iload_n 1, 1) := by decide +kernel
theorem dX8_colour_2 : decode cX8_colour 2 = .ok (.invokevirtual 95, 3) := by decide +kernel
theorem dX8_colour_5 : decode cX8_colour 5 = .ok (.ifCond .ne 5, 3) := by decide +kernel
theorem dX8_colour_8 : decode cX8_colour 8 = .ok (.iconst (-1), 1) := by decide +kernel
theorem dX8_colour_9 : decode cX8_colour 9 = .ok (.ireturn, 1) := by decide +kernel
theorem dX8_colour_10 : decode cX8_colour 10 = .ok (.aload_n 0, 1) := by decide +kernel
theorem dX8_colour_11 : decode cX8_colour 11 = .ok (.invokevirtual 92, 3) := by decide +kernel
theorem dX8_colour_14 : decode cX8_colour 14 = .ok (.aload_n 0, 1) := by decide +kernel
theorem dX8_colour_15 : decode cX8_colour 15 = .ok (.getfield 27, 3) := by decide +kernel
theorem dX8_colour_18 : decode cX8_colour 18 = .ok (.iload_n 1, 1) := by decide +kernel
theorem dX8_colour_19 : decode cX8_colour 19 = .ok (.iaload, 1) := by decide +kernel
theorem dX8_colour_20 : decode cX8_colour 20 = .ok (.iconst 2, 1) := by decide +kernel
theorem dX8_colour_21 : decode cX8_colour 21 = .ok (.irem, 1) := by decide +kernel
theorem dX8_colour_22 : decode cX8_colour 22 = .ok (.ireturn, 1) := by decide +kernel
theorem dX8_coloured_0 : decode cX8_coloured 0 = .ok (.iload_n 1, 1) := by decide +kernel
theorem dX8_coloured_1 : decode cX8_coloured 1 = .ok (.iconst 0, 1) := by decide +kernel
theorem dX8_coloured_2 : decode cX8_coloured 2 = .ok (.iconst 2, 1) := by decide +kernel
theorem dX8_coloured_3 : decode cX8_coloured 3 = .ok (.iload_n 2, 1) := by decide +kernel
theorem dX8_coloured_4 : decode cX8_coloured 4 = .ok (.ifCond .eq 12, 3) := by decide +kernel
theorem dX8_coloured_7 : decode cX8_coloured 7 = .ok (.aload_n 0, 1) := by decide +kernel
theorem dX8_coloured_8 : decode cX8_coloured 8 = .ok (.getfield 7, 3) := by decide +kernel
theorem dX8_coloured_11 : decode cX8_coloured 11 = .ok (.iconst 0, 1) := by decide +kernel
theorem dX8_coloured_12 : decode cX8_coloured 12 = .ok (.iaload, 1) := by decide +kernel
theorem dX8_coloured_13 : decode cX8_coloured 13 = .ok (.goto 9, 3) := by decide +kernel
theorem dX8_coloured_16 : decode cX8_coloured 16 = .ok (.aload_n 0, 1) := by decide +kernel
theorem dX8_coloured_17 : decode cX8_coloured 17 = .ok (.getfield 13, 3) := by decide +kernel
theorem dX8_coloured_20 : decode cX8_coloured 20 = .ok (.iconst 0, 1) := by decide +kernel
theorem dX8_coloured_21 : decode cX8_coloured 21 = .ok (.iaload, 1) := by decide +kernel
theorem dX8_coloured_22 : decode cX8_coloured 22 = .ok (.imul, 1) := by decide +kernel
theorem dX8_coloured_23 : decode cX8_coloured 23 = .ok (.iconst 1, 1) := by decide +kernel
theorem dX8_coloured_24 : decode cX8_coloured 24 = .ok (.isub, 1) := by decide +kernel
theorem dX8_coloured_25 : decode cX8_coloured 25 = .ok (.invokestatic 70, 3) := by decide +kernel
theorem dX8_coloured_28 : decode cX8_coloured 28 = .ok (.ifCond .ne 5, 3) := by decide +kernel
theorem dX8_coloured_31 : decode cX8_coloured 31 = .ok (.iconst (-1), 1) := by decide +kernel
theorem dX8_coloured_32 : decode cX8_coloured 32 = .ok (.ireturn, 1) := by decide +kernel
theorem dX8_coloured_33 : decode cX8_coloured 33 = .ok (.aload_n 0, 1) := by decide +kernel
theorem dX8_coloured_34 : decode cX8_coloured 34 = .ok (.invokevirtual 92, 3) := by decide +kernel
theorem dX8_coloured_37 : decode cX8_coloured 37 = .ok (.iconst 2, 1) := by decide +kernel
theorem dX8_coloured_38 : decode cX8_coloured 38 = .ok (.aload_n 0, 1) := by decide +kernel
theorem dX8_coloured_39 : decode cX8_coloured 39 = .ok (.getfield 7, 3) := by decide +kernel
theorem dX8_coloured_42 : decode cX8_coloured 42 = .ok (.iconst 0, 1) := by decide +kernel
theorem dX8_coloured_43 : decode cX8_coloured 43 = .ok (.iaload, 1) := by decide +kernel
theorem dX8_coloured_44 : decode cX8_coloured 44 = .ok (.imul, 1) := by decide +kernel
theorem dX8_coloured_45 : decode cX8_coloured 45 = .ok (.istore_n 3, 1) := by decide +kernel
theorem dX8_coloured_46 : decode cX8_coloured 46 = .ok (.iconst 0, 1) := by decide +kernel
theorem dX8_coloured_47 : decode cX8_coloured 47 = .ok (.istore 4, 2) := by decide +kernel
theorem dX8_coloured_49 : decode cX8_coloured 49 = .ok (.iconst 0, 1) := by decide +kernel
theorem dX8_coloured_50 : decode cX8_coloured 50 = .ok (.istore 5, 2) := by decide +kernel
theorem dX8_coloured_52 : decode cX8_coloured 52 = .ok (.iload 5, 2) := by decide +kernel
theorem dX8_coloured_54 : decode cX8_coloured 54 = .ok (.aload_n 0, 1) := by decide +kernel
theorem dX8_coloured_55 : decode cX8_coloured 55 = .ok (.invokevirtual 81, 3) := by decide +kernel
theorem dX8_coloured_58 : decode cX8_coloured 58 = .ok (.if_icmp .ge 46, 3) := by decide +kernel
theorem dX8_coloured_61 : decode cX8_coloured 61 = .ok (.iload 4, 2) := by decide +kernel
theorem dX8_coloured_63 : decode cX8_coloured 63 = .ok (.iload_n 2, 1) := by decide +kernel
theorem dX8_coloured_64 : decode cX8_coloured 64 = .ok (.ifCond .eq 10, 3) := by decide +kernel
theorem dX8_coloured_67 : decode cX8_coloured 67 = .ok (.iload 5, 2) := by decide +kernel
theorem dX8_coloured_69 : decode cX8_coloured 69 = .ok (.iload_n 3, 1) := by decide +kernel
theorem dX8_coloured_70 : decode cX8_coloured 70 = .ok (.irem, 1) := by decide +kernel
theorem dX8_coloured_71 : decode cX8_coloured 71 = .ok (.goto 7, 3) := by decide +kernel
theorem dX8_coloured_74 : decode cX8_coloured 74 = .ok (.iload 5, 2) := by decide +kernel
theorem dX8_coloured_76 : decode cX8_coloured 76 = .ok (.iload_n 3, 1) := by decide +kernel
theorem dX8_coloured_77 : decode cX8_coloured 77 = .ok (.idiv, 1) := by decide +kernel
theorem dX8_coloured_78 : decode cX8_coloured 78 = .ok (.iload_n 1, 1) := by decide +kernel
theorem dX8_coloured_79 : decode cX8_coloured 79 = .ok (.if_icmp .ne 15, 3) := by decide +kernel
theorem dX8_coloured_82 : decode cX8_coloured 82 = .ok (.aload_n 0, 1) := by decide +kernel
theorem dX8_coloured_83 : decode cX8_coloured 83 = .ok (.getfield 27, 3) := by decide +kernel
theorem dX8_coloured_86 : decode cX8_coloured 86 = .ok (.iload 5, 2) := by decide +kernel
theorem dX8_coloured_88 : decode cX8_coloured 88 = .ok (.iaload, 1) := by decide +kernel
theorem dX8_coloured_89 : decode cX8_coloured 89 = .ok (.iconst 2, 1) := by decide +kernel
theorem dX8_coloured_90 : decode cX8_coloured 90 = .ok (.irem, 1) := by decide +kernel
theorem dX8_coloured_91 : decode cX8_coloured 91 = .ok (.goto 4, 3) := by decide +kernel
theorem dX8_coloured_94 : decode cX8_coloured 94 = .ok (.iconst 0, 1) := by decide +kernel
theorem dX8_coloured_95 : decode cX8_coloured 95 = .ok (.iadd, 1) := by decide +kernel
theorem dX8_coloured_96 : decode cX8_coloured 96 = .ok (.istore 4, 2) := by decide +kernel
theorem dX8_coloured_98 : decode cX8_coloured 98 = .ok (.iinc 5 1, 3) := by decide +kernel
theorem dX8_coloured_101 : decode cX8_coloured 101 = .ok (.goto (-49), 3) := by decide +kernel
theorem dX8_coloured_104 : decode cX8_coloured 104 = .ok (.iload 4, 2) := by decide +kernel
theorem dX8_coloured_106 : decode cX8_coloured 106 = .ok (.ireturn, 1) := by decide +kernel
theorem dX8_rootOf_0 : decode cX8_rootOf 0 = .ok (.iload_n 1, 1) := by decide +kernel
theorem dX8_rootOf_1 : decode cX8_rootOf 1 = .ok (.istore_n 2, 1) := by decide +kernel
theorem dX8_rootOf_2 : decode cX8_rootOf 2 = .ok (.aload_n 0, 1) := by decide +kernel
theorem dX8_rootOf_3 : decode cX8_rootOf 3 = .ok (.getfield 36, 3) := by decide +kernel
theorem dX8_rootOf_6 : decode cX8_rootOf 6 = .ok (.iload_n 2, 1) := by decide +kernel
theorem dX8_rootOf_7 : decode cX8_rootOf 7 = .ok (.iaload, 1) := by decide +kernel
theorem dX8_rootOf_8 : decode cX8_rootOf 8 = .ok (.iload_n 2, 1) := by decide +kernel
theorem dX8_rootOf_9 : decode cX8_rootOf 9 = .ok (.if_icmp .eq 13, 3) := by decide +kernel
theorem dX8_rootOf_12 : decode cX8_rootOf 12 = .ok (.aload_n 0, 1) := by decide +kernel
theorem dX8_rootOf_13 : decode cX8_rootOf 13 = .ok (.getfield 36, 3) := by decide +kernel
theorem dX8_rootOf_16 : decode cX8_rootOf 16 = .ok (.iload_n 2, 1) := by decide +kernel
theorem dX8_rootOf_17 : decode cX8_rootOf 17 = .ok (.iaload, 1) := by decide +kernel
theorem dX8_rootOf_18 : decode cX8_rootOf 18 = .ok (.istore_n 2, 1) := by decide +kernel
theorem dX8_rootOf_19 : decode cX8_rootOf 19 = .ok (.goto (-17), 3) := by decide +kernel
theorem dX8_rootOf_22 : decode cX8_rootOf 22 = .ok (.iload_n 2, 1) := by decide +kernel
theorem dX8_rootOf_23 : decode cX8_rootOf 23 = .ok (.ireturn, 1) := by decide +kernel
theorem dX8_find_0 : decode cX8_find 0 = .ok (.aload_n 0, 1) := by decide +kernel
theorem dX8_find_1 : decode cX8_find 1 = .ok (.invokevirtual 92, 3) := by decide +kernel
theorem dX8_find_4 : decode cX8_find 4 = .ok (.iconst 0, 1) := by decide +kernel
theorem dX8_find_5 : decode cX8_find 5 = .ok (.istore_n 1, 1) := by decide +kernel
theorem dX8_find_6 : decode cX8_find 6 = .ok (.iload_n 1, 1) := by decide +kernel
theorem dX8_find_7 : decode cX8_find 7 = .ok (.aload_n 0, 1) := by decide +kernel
theorem dX8_find_8 : decode cX8_find 8 = .ok (.getfield 85, 3) := by decide +kernel
theorem dX8_find_11 : decode cX8_find 11 = .ok (.if_icmp .ge 16, 3) := by decide +kernel
theorem dX8_find_14 : decode cX8_find 14 = .ok (.aload_n 0, 1) := by decide +kernel
theorem dX8_find_15 : decode cX8_find 15 = .ok (.getfield 36, 3) := by decide +kernel
theorem dX8_find_18 : decode cX8_find 18 = .ok (.iload_n 1, 1) := by decide +kernel
theorem dX8_find_19 : decode cX8_find 19 = .ok (.iload_n 1, 1) := by decide +kernel
theorem dX8_find_20 : decode cX8_find 20 = .ok (.iastore, 1) := by decide +kernel
theorem dX8_find_21 : decode cX8_find 21 = .ok (.iinc 1 1, 3) := by decide +kernel
theorem dX8_find_24 : decode cX8_find 24 = .ok (.goto (-18), 3) := by decide +kernel
theorem dX8_find_27 : decode cX8_find 27 = .ok (.aload_n 0, 1) := by decide +kernel
theorem dX8_find_28 : decode cX8_find 28 = .ok (.iconst 0, 1) := by decide +kernel
theorem dX8_find_29 : decode cX8_find 29 = .ok (.putfield 105, 3) := by decide +kernel
theorem dX8_find_32 : decode cX8_find 32 = .ok (.aload_n 0, 1) := by decide +kernel
theorem dX8_find_33 : decode cX8_find 33 = .ok (.aload_n 0, 1) := by decide +kernel
theorem dX8_find_34 : decode cX8_find 34 = .ok (.getfield 85, 3) := by decide +kernel
theorem dX8_find_37 : decode cX8_find 37 = .ok (.putfield 108, 3) := by decide +kernel
theorem dX8_find_40 : decode cX8_find 40 = .ok (.iconst 1, 1) := by decide +kernel
theorem dX8_find_41 : decode cX8_find 41 = .ok (.istore_n 1, 1) := by decide +kernel
theorem dX8_find_42 : decode cX8_find 42 = .ok (.iload_n 1, 1) := by decide +kernel
theorem dX8_find_43 : decode cX8_find 43 = .ok (.iconst 2, 1) := by decide +kernel
theorem dX8_find_44 : decode cX8_find 44 = .ok (.aload_n 0, 1) := by decide +kernel
theorem dX8_find_45 : decode cX8_find 45 = .ok (.getfield 13, 3) := by decide +kernel
theorem dX8_find_48 : decode cX8_find 48 = .ok (.iconst 0, 1) := by decide +kernel
theorem dX8_find_49 : decode cX8_find 49 = .ok (.iaload, 1) := by decide +kernel
theorem dX8_find_50 : decode cX8_find 50 = .ok (.imul, 1) := by decide +kernel
theorem dX8_find_51 : decode cX8_find 51 = .ok (.if_icmp .ge 133, 3) := by decide +kernel
theorem dX8_find_54 : decode cX8_find 54 = .ok (.iconst 1, 1) := by decide +kernel
theorem dX8_find_55 : decode cX8_find 55 = .ok (.istore_n 2, 1) := by decide +kernel
theorem dX8_find_56 : decode cX8_find 56 = .ok (.iload_n 2, 1) := by decide +kernel
theorem dX8_find_57 : decode cX8_find 57 = .ok (.iconst 2, 1) := by decide +kernel
theorem dX8_find_58 : decode cX8_find 58 = .ok (.aload_n 0, 1) := by decide +kernel
theorem dX8_find_59 : decode cX8_find 59 = .ok (.getfield 7, 3) := by decide +kernel
theorem dX8_find_62 : decode cX8_find 62 = .ok (.iconst 0, 1) := by decide +kernel
theorem dX8_find_63 : decode cX8_find 63 = .ok (.iaload, 1) := by decide +kernel
theorem dX8_find_64 : decode cX8_find 64 = .ok (.imul, 1) := by decide +kernel
theorem dX8_find_65 : decode cX8_find 65 = .ok (.if_icmp .ge 113, 3) := by decide +kernel
theorem dX8_find_68 : decode cX8_find 68 = .ok (.aload_n 0, 1) := by decide +kernel
theorem dX8_find_69 : decode cX8_find 69 = .ok (.iconst 0, 1) := by decide +kernel
theorem dX8_find_70 : decode cX8_find 70 = .ok (.iload_n 2, 1) := by decide +kernel
theorem dX8_find_71 : decode cX8_find 71 = .ok (.iload_n 1, 1) := by decide +kernel
theorem dX8_find_72 : decode cX8_find 72 = .ok (.invokevirtual 74, 3) := by decide +kernel
theorem dX8_find_75 : decode cX8_find 75 = .ok (.ifCond .eq 97, 3) := by decide +kernel
theorem dX8_find_78 : decode cX8_find 78 = .ok (.aload_n 0, 1) := by decide +kernel
theorem dX8_find_79 : decode cX8_find 79 = .ok (.getfield 20, 3) := by decide +kernel
theorem dX8_find_82 : decode cX8_find 82 = .ok (.iconst 0, 1) := by decide +kernel
theorem dX8_find_83 : decode cX8_find 83 = .ok (.iload_n 2, 1) := by decide +kernel
theorem dX8_find_84 : decode cX8_find 84 = .ok (.iload_n 1, 1) := by decide +kernel
theorem dX8_find_85 : decode cX8_find 85 = .ok (.invokestatic 77, 3) := by decide +kernel
theorem dX8_find_88 : decode cX8_find 88 = .ok (.baload, 1) := by decide +kernel
theorem dX8_find_89 : decode cX8_find 89 = .ok (.ifCond .eq 6, 3) := by decide +kernel
theorem dX8_find_92 : decode cX8_find 92 = .ok (.goto 80, 3) := by decide +kernel
theorem dX8_find_95 : decode cX8_find 95 = .ok (.aload_n 0, 1) := by decide +kernel
theorem dX8_find_96 : decode cX8_find 96 = .ok (.aload_n 0, 1) := by decide +kernel
theorem dX8_find_97 : decode cX8_find 97 = .ok (.iload_n 2, 1) := by decide +kernel
theorem dX8_find_98 : decode cX8_find 98 = .ok (.iload_n 1, 1) := by decide +kernel
theorem dX8_find_99 : decode cX8_find 99 = .ok (.iconst 0, 1) := by decide +kernel
theorem dX8_find_100 : decode cX8_find 100 = .ok (.invokevirtual 102, 3) := by decide +kernel
theorem dX8_find_103 : decode cX8_find 103 = .ok (.invokevirtual 111, 3) := by decide +kernel
theorem dX8_find_106 : decode cX8_find 106 = .ok (.istore_n 3, 1) := by decide +kernel
theorem dX8_find_107 : decode cX8_find 107 = .ok (.aload_n 0, 1) := by decide +kernel
theorem dX8_find_108 : decode cX8_find 108 = .ok (.aload_n 0, 1) := by decide +kernel
theorem dX8_find_109 : decode cX8_find 109 = .ok (.iload_n 2, 1) := by decide +kernel
theorem dX8_find_110 : decode cX8_find 110 = .ok (.iload_n 1, 1) := by decide +kernel
theorem dX8_find_111 : decode cX8_find 111 = .ok (.iconst 1, 1) := by decide +kernel
theorem dX8_find_112 : decode cX8_find 112 = .ok (.invokevirtual 102, 3) := by decide +kernel
theorem dX8_find_115 : decode cX8_find 115 = .ok (.invokevirtual 111, 3) := by decide +kernel
theorem dX8_find_118 : decode cX8_find 118 = .ok (.istore 4, 2) := by decide +kernel
theorem dX8_find_120 : decode cX8_find 120 = .ok (.iload_n 3, 1) := by decide +kernel
theorem dX8_find_121 : decode cX8_find 121 = .ok (.iload 4, 2) := by decide +kernel
theorem dX8_find_123 : decode cX8_find 123 = .ok (.if_icmp .ne 6, 3) := by decide +kernel
theorem dX8_find_126 : decode cX8_find 126 = .ok (.goto 46, 3) := by decide +kernel
theorem dX8_find_129 : decode cX8_find 129 = .ok (.aload_n 0, 1) := by decide +kernel
theorem dX8_find_130 : decode cX8_find 130 = .ok (.getfield 36, 3) := by decide +kernel
theorem dX8_find_133 : decode cX8_find 133 = .ok (.iload_n 3, 1) := by decide +kernel
theorem dX8_find_134 : decode cX8_find 134 = .ok (.iload 4, 2) := by decide +kernel
theorem dX8_find_136 : decode cX8_find 136 = .ok (.iastore, 1) := by decide +kernel
theorem dX8_find_137 : decode cX8_find 137 = .ok (.aload_n 0, 1) := by decide +kernel
theorem dX8_find_138 : decode cX8_find 138 = .ok (.dup, 1) := by decide +kernel
theorem dX8_find_139 : decode cX8_find 139 = .ok (.getfield 108, 3) := by decide +kernel
theorem dX8_find_142 : decode cX8_find 142 = .ok (.iconst 1, 1) := by decide +kernel
theorem dX8_find_143 : decode cX8_find 143 = .ok (.isub, 1) := by decide +kernel
theorem dX8_find_144 : decode cX8_find 144 = .ok (.putfield 108, 3) := by decide +kernel
theorem dX8_find_147 : decode cX8_find 147 = .ok (.aload_n 0, 1) := by decide +kernel
theorem dX8_find_148 : decode cX8_find 148 = .ok (.getfield 39, 3) := by decide +kernel
theorem dX8_find_151 : decode cX8_find 151 = .ok (.aload_n 0, 1) := by decide +kernel
theorem dX8_find_152 : decode cX8_find 152 = .ok (.getfield 105, 3) := by decide +kernel
theorem dX8_find_155 : decode cX8_find 155 = .ok (.iconst 0, 1) := by decide +kernel
theorem dX8_find_156 : decode cX8_find 156 = .ok (.iload_n 2, 1) := by decide +kernel
theorem dX8_find_157 : decode cX8_find 157 = .ok (.iload_n 1, 1) := by decide +kernel
theorem dX8_find_158 : decode cX8_find 158 = .ok (.invokestatic 77, 3) := by decide +kernel
theorem dX8_find_161 : decode cX8_find 161 = .ok (.iastore, 1) := by decide +kernel
theorem dX8_find_162 : decode cX8_find 162 = .ok (.aload_n 0, 1) := by decide +kernel
theorem dX8_find_163 : decode cX8_find 163 = .ok (.dup, 1) := by decide +kernel
theorem dX8_find_164 : decode cX8_find 164 = .ok (.getfield 105, 3) := by decide +kernel
theorem dX8_find_167 : decode cX8_find 167 = .ok (.iconst 1, 1) := by decide +kernel
theorem dX8_find_168 : decode cX8_find 168 = .ok (.iadd, 1) := by decide +kernel
theorem dX8_find_169 : decode cX8_find 169 = .ok (.putfield 105, 3) := by decide +kernel
theorem dX8_find_172 : decode cX8_find 172 = .ok (.iinc 2 1, 3) := by decide +kernel
theorem dX8_find_175 : decode cX8_find 175 = .ok (.goto (-119), 3) := by decide +kernel
theorem dX8_find_178 : decode cX8_find 178 = .ok (.iinc 1 1, 3) := by decide +kernel
theorem dX8_find_181 : decode cX8_find 181 = .ok (.goto (-139), 3) := by decide +kernel
theorem dX8_find_184 : decode cX8_find 184 = .ok (.return_, 1) := by decide +kernel
theorem dX8_joined_0 : decode cX8_joined 0 = .ok (.aload_n 0, 1) := by decide +kernel
theorem dX8_joined_1 : decode cX8_joined 1 = .ok (.invokevirtual 115, 3) := by decide +kernel
theorem dX8_joined_4 : decode cX8_joined 4 = .ok (.iload_n 1, 1) := by decide +kernel
theorem dX8_joined_5 : decode cX8_joined 5 = .ok (.ifCond .ne 10, 3) := by decide +kernel
theorem dX8_joined_8 : decode cX8_joined 8 = .ok (.aload_n 0, 1) := by decide +kernel
theorem dX8_joined_9 : decode cX8_joined 9 = .ok (.getfield 108, 3) := by decide +kernel
theorem dX8_joined_12 : decode cX8_joined 12 = .ok (.goto 16, 3) := by decide +kernel
theorem dX8_joined_15 : decode cX8_joined 15 = .ok (.iload_n 1, 1) := by decide +kernel
theorem dX8_joined_16 : decode cX8_joined 16 = .ok (.iconst 1, 1) := by decide +kernel
theorem dX8_joined_17 : decode cX8_joined 17 = .ok (.if_icmp .ne 10, 3) := by decide +kernel
theorem dX8_joined_20 : decode cX8_joined 20 = .ok (.aload_n 0, 1) := by decide +kernel
theorem dX8_joined_21 : decode cX8_joined 21 = .ok (.getfield 105, 3) := by decide +kernel
theorem dX8_joined_24 : decode cX8_joined 24 = .ok (.goto 4, 3) := by decide +kernel
theorem dX8_joined_27 : decode cX8_joined 27 = .ok (.iconst (-1), 1) := by decide +kernel
theorem dX8_joined_28 : decode cX8_joined 28 = .ok (.ireturn, 1) := by decide +kernel
theorem dX8_other_0 : decode cX8_other 0 = .ok (.aload_n 0, 1) := by decide +kernel
theorem dX8_other_1 : decode cX8_other 1 = .ok (.getfield 16, 3) := by decide +kernel
theorem dX8_other_4 : decode cX8_other 4 = .ok (.iload_n 1, 1) := by decide +kernel
theorem dX8_other_5 : decode cX8_other 5 = .ok (.baload, 1) := by decide +kernel
theorem dX8_other_6 : decode cX8_other 6 = .ok (.ifCond .ne 7, 3) := by decide +kernel
theorem dX8_other_9 : decode cX8_other 9 = .ok (.iconst 1, 1) := by decide +kernel
theorem dX8_other_10 : decode cX8_other 10 = .ok (.goto 4, 3) := by decide +kernel
theorem dX8_other_13 : decode cX8_other 13 = .ok (.iconst 0, 1) := by decide +kernel
theorem dX8_other_14 : decode cX8_other 14 = .ok (.ireturn, 1) := by decide +kernel
theorem dX8_change_0 : decode cX8_change 0 = .ok (.aload_n 0, 1) := by decide +kernel
theorem dX8_change_1 : decode cX8_change 1 = .ok (.invokevirtual 115, 3) := by decide +kernel
theorem dX8_change_4 : decode cX8_change 4 = .ok (.iload_n 1, 1) := by decide +kernel
theorem dX8_change_5 : decode cX8_change 5 = .ok (.iconst 0, 1) := by decide +kernel
theorem dX8_change_6 : decode cX8_change 6 = .ok (.aload_n 0, 1) := by decide +kernel
theorem dX8_change_7 : decode cX8_change 7 = .ok (.getfield 105, 3) := by decide +kernel
theorem dX8_change_10 : decode cX8_change 10 = .ok (.iconst 1, 1) := by decide +kernel
theorem dX8_change_11 : decode cX8_change 11 = .ok (.isub, 1) := by decide +kernel
theorem dX8_change_12 : decode cX8_change 12 = .ok (.invokestatic 70, 3) := by decide +kernel
theorem dX8_change_15 : decode cX8_change 15 = .ok (.ifCond .ne 5, 3) := by decide +kernel
theorem dX8_change_18 : decode cX8_change 18 = .ok (.iconst (-1), 1) := by decide +kernel
theorem dX8_change_19 : decode cX8_change 19 = .ok (.ireturn, 1) := by decide +kernel
theorem dX8_change_20 : decode cX8_change 20 = .ok (.aload_n 0, 1) := by decide +kernel
theorem dX8_change_21 : decode cX8_change 21 = .ok (.getfield 39, 3) := by decide +kernel
theorem dX8_change_24 : decode cX8_change 24 = .ok (.iload_n 1, 1) := by decide +kernel
theorem dX8_change_25 : decode cX8_change 25 = .ok (.iaload, 1) := by decide +kernel
theorem dX8_change_26 : decode cX8_change 26 = .ok (.istore_n 3, 1) := by decide +kernel
theorem dX8_change_27 : decode cX8_change 27 = .ok (.iload_n 2, 1) := by decide +kernel
theorem dX8_change_28 : decode cX8_change 28 = .ok (.ifCond .ne 10, 3) := by decide +kernel
theorem dX8_change_31 : decode cX8_change 31 = .ok (.iload_n 3, 1) := by decide +kernel
theorem dX8_change_32 : decode cX8_change 32 = .ok (.bipush 17, 2) := by decide +kernel
theorem dX8_change_34 : decode cX8_change 34 = .ok (.irem, 1) := by decide +kernel
theorem dX8_change_35 : decode cX8_change 35 = .ok (.goto 29, 3) := by decide +kernel
theorem dX8_change_38 : decode cX8_change 38 = .ok (.iload_n 2, 1) := by decide +kernel
theorem dX8_change_39 : decode cX8_change 39 = .ok (.iconst 1, 1) := by decide +kernel
theorem dX8_change_40 : decode cX8_change 40 = .ok (.if_icmp .ne 10, 3) := by decide +kernel
theorem dX8_change_43 : decode cX8_change 43 = .ok (.iload_n 3, 1) := by decide +kernel
theorem dX8_change_44 : decode cX8_change 44 = .ok (.bipush 17, 2) := by decide +kernel
theorem dX8_change_46 : decode cX8_change 46 = .ok (.idiv, 1) := by decide +kernel
theorem dX8_change_47 : decode cX8_change 47 = .ok (.goto 17, 3) := by decide +kernel
theorem dX8_change_50 : decode cX8_change 50 = .ok (.iload_n 2, 1) := by decide +kernel
theorem dX8_change_51 : decode cX8_change 51 = .ok (.iconst 2, 1) := by decide +kernel
theorem dX8_change_52 : decode cX8_change 52 = .ok (.if_icmp .ne 11, 3) := by decide +kernel
theorem dX8_change_55 : decode cX8_change 55 = .ok (.aload_n 0, 1) := by decide +kernel
theorem dX8_change_56 : decode cX8_change 56 = .ok (.iload_n 3, 1) := by decide +kernel
theorem dX8_change_57 : decode cX8_change 57 = .ok (.invokevirtual 118, 3) := by decide +kernel
theorem dX8_change_60 : decode cX8_change 60 = .ok (.goto 4, 3) := by decide +kernel
theorem dX8_change_63 : decode cX8_change 63 = .ok (.iconst (-1), 1) := by decide +kernel
theorem dX8_change_64 : decode cX8_change 64 = .ok (.ireturn, 1) := by decide +kernel
theorem dX8_join_0 : decode cX8_join 0 = .ok (.aload_n 0, 1) := by decide +kernel
theorem dX8_join_1 : decode cX8_join 1 = .ok (.invokevirtual 115, 3) := by decide +kernel
theorem dX8_join_4 : decode cX8_join 4 = .ok (.iconst 0, 1) := by decide +kernel
theorem dX8_join_5 : decode cX8_join 5 = .ok (.istore_n 1, 1) := by decide +kernel
theorem dX8_join_6 : decode cX8_join 6 = .ok (.iload_n 1, 1) := by decide +kernel
theorem dX8_join_7 : decode cX8_join 7 = .ok (.aload_n 0, 1) := by decide +kernel
theorem dX8_join_8 : decode cX8_join 8 = .ok (.getfield 105, 3) := by decide +kernel
theorem dX8_join_11 : decode cX8_join 11 = .ok (.if_icmp .ge 31, 3) := by decide +kernel
theorem dX8_join_14 : decode cX8_join 14 = .ok (.aload_n 0, 1) := by decide +kernel
theorem dX8_join_15 : decode cX8_join 15 = .ok (.getfield 16, 3) := by decide +kernel
theorem dX8_join_18 : decode cX8_join 18 = .ok (.aload_n 0, 1) := by decide +kernel
theorem dX8_join_19 : decode cX8_join 19 = .ok (.getfield 39, 3) := by decide +kernel
theorem dX8_join_22 : decode cX8_join 22 = .ok (.iload_n 1, 1) := by decide +kernel
theorem dX8_join_23 : decode cX8_join 23 = .ok (.iaload, 1) := by decide +kernel
theorem dX8_join_24 : decode cX8_join 24 = .ok (.aload_n 0, 1) := by decide +kernel
theorem dX8_join_25 : decode cX8_join 25 = .ok (.aload_n 0, 1) := by decide +kernel
theorem dX8_join_26 : decode cX8_join 26 = .ok (.getfield 39, 3) := by decide +kernel
theorem dX8_join_29 : decode cX8_join 29 = .ok (.iload_n 1, 1) := by decide +kernel
theorem dX8_join_30 : decode cX8_join 30 = .ok (.iaload, 1) := by decide +kernel
theorem dX8_join_31 : decode cX8_join 31 = .ok (.invokevirtual 118, 3) := by decide +kernel
theorem dX8_join_34 : decode cX8_join 34 = .ok (.i2b, 1) := by decide +kernel
theorem dX8_join_35 : decode cX8_join 35 = .ok (.bastore, 1) := by decide +kernel
theorem dX8_join_36 : decode cX8_join 36 = .ok (.iinc 1 1, 3) := by decide +kernel
theorem dX8_join_39 : decode cX8_join 39 = .ok (.goto (-33), 3) := by decide +kernel
theorem dX8_join_42 : decode cX8_join 42 = .ok (.aload_n 0, 1) := by decide +kernel
theorem dX8_join_43 : decode cX8_join 43 = .ok (.getfield 105, 3) := by decide +kernel
theorem dX8_join_46 : decode cX8_join 46 = .ok (.ireturn, 1) := by decide +kernel
theorem dX8_four_0 : decode cX8_four 0 = .ok (.bipush 24, 2) := by decide +kernel
theorem dX8_four_2 : decode cX8_four 2 = .ok (.istore_n 2, 1) := by decide +kernel
theorem dX8_four_3 : decode cX8_four 3 = .ok (.iload_n 2, 1) := by decide +kernel
theorem dX8_four_4 : decode cX8_four 4 = .ok (.ifCond .lt 35, 3) := by decide +kernel
theorem dX8_four_7 : decode cX8_four 7 = .ok (.aload_n 0, 1) := by decide +kernel
theorem dX8_four_8 : decode cX8_four 8 = .ok (.getfield 42, 3) := by decide +kernel
theorem dX8_four_11 : decode cX8_four 11 = .ok (.aload_n 0, 1) := by decide +kernel
theorem dX8_four_12 : decode cX8_four 12 = .ok (.getfield 121, 3) := by decide +kernel
theorem dX8_four_15 : decode cX8_four 15 = .ok (.iload_n 1, 1) := by decide +kernel
theorem dX8_four_16 : decode cX8_four 16 = .ok (.iload_n 2, 1) := by decide +kernel
theorem dX8_four_17 : decode cX8_four 17 = .ok (.ishr, 1) := by decide +kernel
theorem dX8_four_18 : decode cX8_four 18 = .ok (.sipush 255, 3) := by decide +kernel
theorem dX8_four_21 : decode cX8_four 21 = .ok (.iand, 1) := by decide +kernel
theorem dX8_four_22 : decode cX8_four 22 = .ok (.iastore, 1) := by decide +kernel
theorem dX8_four_23 : decode cX8_four 23 = .ok (.aload_n 0, 1) := by decide +kernel
theorem dX8_four_24 : decode cX8_four 24 = .ok (.dup, 1) := by decide +kernel
theorem dX8_four_25 : decode cX8_four 25 = .ok (.getfield 121, 3) := by decide +kernel
theorem dX8_four_28 : decode cX8_four 28 = .ok (.iconst 1, 1) := by decide +kernel
theorem dX8_four_29 : decode cX8_four 29 = .ok (.iadd, 1) := by decide +kernel
theorem dX8_four_30 : decode cX8_four 30 = .ok (.putfield 121, 3) := by decide +kernel
theorem dX8_four_33 : decode cX8_four 33 = .ok (.iinc 2 (-8), 3) := by decide +kernel
theorem dX8_four_36 : decode cX8_four 36 = .ok (.goto (-33), 3) := by decide +kernel
theorem dX8_four_39 : decode cX8_four 39 = .ok (.return_, 1) := by decide +kernel
theorem dX8_feed_0 : decode cX8_feed 0 = .ok (.aload_n 0, 1) := by decide +kernel
theorem dX8_feed_1 : decode cX8_feed 1 = .ok (.getfield 121, 3) := by decide +kernel
theorem dX8_feed_4 : decode cX8_feed 4 = .ok (.bipush 20, 2) := by decide +kernel
theorem dX8_feed_6 : decode cX8_feed 6 = .ok (.iadd, 1) := by decide +kernel
theorem dX8_feed_7 : decode cX8_feed 7 = .ok (.sipush 200, 3) := by decide +kernel
theorem dX8_feed_10 : decode cX8_feed 10 = .ok (.if_icmp .le 5, 3) := by decide +kernel
theorem dX8_feed_13 : decode cX8_feed 13 = .ok (.iconst (-1), 1) := by decide +kernel
theorem dX8_feed_14 : decode cX8_feed 14 = .ok (.ireturn, 1) := by decide +kernel
theorem dX8_feed_15 : decode cX8_feed 15 = .ok (.aload_n 0, 1) := by decide +kernel
theorem dX8_feed_16 : decode cX8_feed 16 = .ok (.iload_n 1, 1) := by decide +kernel
theorem dX8_feed_17 : decode cX8_feed 17 = .ok (.invokevirtual 124, 3) := by decide +kernel
theorem dX8_feed_20 : decode cX8_feed 20 = .ok (.aload_n 0, 1) := by decide +kernel
theorem dX8_feed_21 : decode cX8_feed 21 = .ok (.iload_n 2, 1) := by decide +kernel
theorem dX8_feed_22 : decode cX8_feed 22 = .ok (.invokevirtual 124, 3) := by decide +kernel
theorem dX8_feed_25 : decode cX8_feed 25 = .ok (.aload_n 0, 1) := by decide +kernel
theorem dX8_feed_26 : decode cX8_feed 26 = .ok (.iload_n 3, 1) := by decide +kernel
theorem dX8_feed_27 : decode cX8_feed 27 = .ok (.invokevirtual 124, 3) := by decide +kernel
theorem dX8_feed_30 : decode cX8_feed 30 = .ok (.aload_n 0, 1) := by decide +kernel
theorem dX8_feed_31 : decode cX8_feed 31 = .ok (.iload 4, 2) := by decide +kernel
theorem dX8_feed_33 : decode cX8_feed 33 = .ok (.invokevirtual 124, 3) := by decide +kernel
theorem dX8_feed_36 : decode cX8_feed 36 = .ok (.aload_n 0, 1) := by decide +kernel
theorem dX8_feed_37 : decode cX8_feed 37 = .ok (.iload 5, 2) := by decide +kernel
theorem dX8_feed_39 : decode cX8_feed 39 = .ok (.invokevirtual 124, 3) := by decide +kernel
theorem dX8_feed_42 : decode cX8_feed 42 = .ok (.aload_n 0, 1) := by decide +kernel
theorem dX8_feed_43 : decode cX8_feed 43 = .ok (.getfield 121, 3) := by decide +kernel
theorem dX8_feed_46 : decode cX8_feed 46 = .ok (.ireturn, 1) := by decide +kernel
theorem dX8_end_0 : decode cX8_end 0 = .ok (.iload_n 1, 1) := by decide +kernel
theorem dX8_end_1 : decode cX8_end 1 = .ok (.iconst 0, 1) := by decide +kernel
theorem dX8_end_2 : decode cX8_end 2 = .ok (.aload_n 0, 1) := by decide +kernel
theorem dX8_end_3 : decode cX8_end 3 = .ok (.getfield 121, 3) := by decide +kernel
theorem dX8_end_6 : decode cX8_end 6 = .ok (.invokestatic 70, 3) := by decide +kernel
theorem dX8_end_9 : decode cX8_end 9 = .ok (.ifCond .ne 5, 3) := by decide +kernel
theorem dX8_end_12 : decode cX8_end 12 = .ok (.iconst (-1), 1) := by decide +kernel
theorem dX8_end_13 : decode cX8_end 13 = .ok (.ireturn, 1) := by decide +kernel
theorem dX8_end_14 : decode cX8_end 14 = .ok (.aload_n 0, 1) := by decide +kernel
theorem dX8_end_15 : decode cX8_end 15 = .ok (.iload_n 1, 1) := by decide +kernel
theorem dX8_end_16 : decode cX8_end 16 = .ok (.putfield 121, 3) := by decide +kernel
theorem dX8_end_19 : decode cX8_end 19 = .ok (.iload_n 1, 1) := by decide +kernel
theorem dX8_end_20 : decode cX8_end 20 = .ok (.ireturn, 1) := by decide +kernel
theorem dX8_copy_0 : decode cX8_copy 0 = .ok (.aload_n 0, 1) := by decide +kernel
theorem dX8_copy_1 : decode cX8_copy 1 = .ok (.getfield 7, 3) := by decide +kernel
theorem dX8_copy_4 : decode cX8_copy 4 = .ok (.iload_n 2, 1) := by decide +kernel
theorem dX8_copy_5 : decode cX8_copy 5 = .ok (.aload_n 0, 1) := by decide +kernel
theorem dX8_copy_6 : decode cX8_copy 6 = .ok (.getfield 7, 3) := by decide +kernel
theorem dX8_copy_9 : decode cX8_copy 9 = .ok (.iload_n 1, 1) := by decide +kernel
theorem dX8_copy_10 : decode cX8_copy 10 = .ok (.iaload, 1) := by decide +kernel
theorem dX8_copy_11 : decode cX8_copy 11 = .ok (.iastore, 1) := by decide +kernel
theorem dX8_copy_12 : decode cX8_copy 12 = .ok (.aload_n 0, 1) := by decide +kernel
theorem dX8_copy_13 : decode cX8_copy 13 = .ok (.getfield 13, 3) := by decide +kernel
theorem dX8_copy_16 : decode cX8_copy 16 = .ok (.iload_n 2, 1) := by decide +kernel
theorem dX8_copy_17 : decode cX8_copy 17 = .ok (.aload_n 0, 1) := by decide +kernel
theorem dX8_copy_18 : decode cX8_copy 18 = .ok (.getfield 13, 3) := by decide +kernel
theorem dX8_copy_21 : decode cX8_copy 21 = .ok (.iload_n 1, 1) := by decide +kernel
theorem dX8_copy_22 : decode cX8_copy 22 = .ok (.iaload, 1) := by decide +kernel
theorem dX8_copy_23 : decode cX8_copy 23 = .ok (.iastore, 1) := by decide +kernel
theorem dX8_copy_24 : decode cX8_copy 24 = .ok (.iconst 0, 1) := by decide +kernel
theorem dX8_copy_25 : decode cX8_copy 25 = .ok (.istore_n 3, 1) := by decide +kernel
theorem dX8_copy_26 : decode cX8_copy 26 = .ok (.iload_n 3, 1) := by decide +kernel
theorem dX8_copy_27 : decode cX8_copy 27 = .ok (.sipush 289, 3) := by decide +kernel
theorem dX8_copy_30 : decode cX8_copy 30 = .ok (.if_icmp .ge 33, 3) := by decide +kernel
theorem dX8_copy_33 : decode cX8_copy 33 = .ok (.aload_n 0, 1) := by decide +kernel
theorem dX8_copy_34 : decode cX8_copy 34 = .ok (.getfield 16, 3) := by decide +kernel
theorem dX8_copy_37 : decode cX8_copy 37 = .ok (.sipush 289, 3) := by decide +kernel
theorem dX8_copy_40 : decode cX8_copy 40 = .ok (.iload_n 2, 1) := by decide +kernel
theorem dX8_copy_41 : decode cX8_copy 41 = .ok (.imul, 1) := by decide +kernel
theorem dX8_copy_42 : decode cX8_copy 42 = .ok (.iload_n 3, 1) := by decide +kernel
theorem dX8_copy_43 : decode cX8_copy 43 = .ok (.iadd, 1) := by decide +kernel
theorem dX8_copy_44 : decode cX8_copy 44 = .ok (.aload_n 0, 1) := by decide +kernel
theorem dX8_copy_45 : decode cX8_copy 45 = .ok (.getfield 16, 3) := by decide +kernel
theorem dX8_copy_48 : decode cX8_copy 48 = .ok (.sipush 289, 3) := by decide +kernel
theorem dX8_copy_51 : decode cX8_copy 51 = .ok (.iload_n 1, 1) := by decide +kernel
theorem dX8_copy_52 : decode cX8_copy 52 = .ok (.imul, 1) := by decide +kernel
theorem dX8_copy_53 : decode cX8_copy 53 = .ok (.iload_n 3, 1) := by decide +kernel
theorem dX8_copy_54 : decode cX8_copy 54 = .ok (.iadd, 1) := by decide +kernel
theorem dX8_copy_55 : decode cX8_copy 55 = .ok (.baload, 1) := by decide +kernel
theorem dX8_copy_56 : decode cX8_copy 56 = .ok (.bastore, 1) := by decide +kernel
theorem dX8_copy_57 : decode cX8_copy 57 = .ok (.iinc 3 1, 3) := by decide +kernel
theorem dX8_copy_60 : decode cX8_copy 60 = .ok (.goto (-34), 3) := by decide +kernel
theorem dX8_copy_63 : decode cX8_copy 63 = .ok (.return_, 1) := by decide +kernel
theorem dX8_plain_0 : decode cX8_plain 0 = .ok (.aload_n 0, 1) := by decide +kernel
theorem dX8_plain_1 : decode cX8_plain 1 = .ok (.getfield 7, 3) := by decide +kernel
theorem dX8_plain_4 : decode cX8_plain 4 = .ok (.iload_n 1, 1) := by decide +kernel
theorem dX8_plain_5 : decode cX8_plain 5 = .ok (.iload_n 2, 1) := by decide +kernel
theorem dX8_plain_6 : decode cX8_plain 6 = .ok (.iastore, 1) := by decide +kernel
theorem dX8_plain_7 : decode cX8_plain 7 = .ok (.aload_n 0, 1) := by decide +kernel
theorem dX8_plain_8 : decode cX8_plain 8 = .ok (.getfield 13, 3) := by decide +kernel
theorem dX8_plain_11 : decode cX8_plain 11 = .ok (.iload_n 1, 1) := by decide +kernel
theorem dX8_plain_12 : decode cX8_plain 12 = .ok (.iload_n 3, 1) := by decide +kernel
theorem dX8_plain_13 : decode cX8_plain 13 = .ok (.iastore, 1) := by decide +kernel
theorem dX8_plain_14 : decode cX8_plain 14 = .ok (.iconst 0, 1) := by decide +kernel
theorem dX8_plain_15 : decode cX8_plain 15 = .ok (.istore 4, 2) := by decide +kernel
theorem dX8_plain_17 : decode cX8_plain 17 = .ok (.iload 4, 2) := by decide +kernel
theorem dX8_plain_19 : decode cX8_plain 19 = .ok (.sipush 289, 3) := by decide +kernel
theorem dX8_plain_22 : decode cX8_plain 22 = .ok (.if_icmp .ge 23, 3) := by decide +kernel
theorem dX8_plain_25 : decode cX8_plain 25 = .ok (.aload_n 0, 1) := by decide +kernel
theorem dX8_plain_26 : decode cX8_plain 26 = .ok (.getfield 16, 3) := by decide +kernel
theorem dX8_plain_29 : decode cX8_plain 29 = .ok (.sipush 289, 3) := by decide +kernel
theorem dX8_plain_32 : decode cX8_plain 32 = .ok (.iload_n 1, 1) := by decide +kernel
theorem dX8_plain_33 : decode cX8_plain 33 = .ok (.imul, 1) := by decide +kernel
theorem dX8_plain_34 : decode cX8_plain 34 = .ok (.iload 4, 2) := by decide +kernel
theorem dX8_plain_36 : decode cX8_plain 36 = .ok (.iadd, 1) := by decide +kernel
theorem dX8_plain_37 : decode cX8_plain 37 = .ok (.iconst 0, 1) := by decide +kernel
theorem dX8_plain_38 : decode cX8_plain 38 = .ok (.bastore, 1) := by decide +kernel
theorem dX8_plain_39 : decode cX8_plain 39 = .ok (.iinc 4 1, 3) := by decide +kernel
theorem dX8_plain_42 : decode cX8_plain 42 = .ok (.goto (-25), 3) := by decide +kernel
theorem dX8_plain_45 : decode cX8_plain 45 = .ok (.return_, 1) := by decide +kernel
theorem dX8_lay_0 : decode cX8_lay 0 = .ok (.iconst 0, 1) := by decide +kernel
theorem dX8_lay_1 : decode cX8_lay 1 = .ok (.istore 5, 2) := by decide +kernel
theorem dX8_lay_3 : decode cX8_lay 3 = .ok (.iload 5, 2) := by decide +kernel
theorem dX8_lay_5 : decode cX8_lay 5 = .ok (.iconst 2, 1) := by decide +kernel
theorem dX8_lay_6 : decode cX8_lay 6 = .ok (.aload_n 0, 1) := by decide +kernel
theorem dX8_lay_7 : decode cX8_lay 7 = .ok (.getfield 13, 3) := by decide +kernel
theorem dX8_lay_10 : decode cX8_lay 10 = .ok (.iload_n 1, 1) := by decide +kernel
theorem dX8_lay_11 : decode cX8_lay 11 = .ok (.iaload, 1) := by decide +kernel
theorem dX8_lay_12 : decode cX8_lay 12 = .ok (.imul, 1) := by decide +kernel
theorem dX8_lay_13 : decode cX8_lay 13 = .ok (.if_icmp .gt 78, 3) := by decide +kernel
theorem dX8_lay_16 : decode cX8_lay 16 = .ok (.iconst 0, 1) := by decide +kernel
theorem dX8_lay_17 : decode cX8_lay 17 = .ok (.istore 6, 2) := by decide +kernel
theorem dX8_lay_19 : decode cX8_lay 19 = .ok (.iload 6, 2) := by decide +kernel
theorem dX8_lay_21 : decode cX8_lay 21 = .ok (.iconst 2, 1) := by decide +kernel
theorem dX8_lay_22 : decode cX8_lay 22 = .ok (.aload_n 0, 1) := by decide +kernel
theorem dX8_lay_23 : decode cX8_lay 23 = .ok (.getfield 7, 3) := by decide +kernel
theorem dX8_lay_26 : decode cX8_lay 26 = .ok (.iload_n 1, 1) := by decide +kernel
theorem dX8_lay_27 : decode cX8_lay 27 = .ok (.iaload, 1) := by decide +kernel
theorem dX8_lay_28 : decode cX8_lay 28 = .ok (.imul, 1) := by decide +kernel
theorem dX8_lay_29 : decode cX8_lay 29 = .ok (.if_icmp .gt 56, 3) := by decide +kernel
theorem dX8_lay_32 : decode cX8_lay 32 = .ok (.aload_n 0, 1) := by decide +kernel
theorem dX8_lay_33 : decode cX8_lay 33 = .ok (.getfield 16, 3) := by decide +kernel
theorem dX8_lay_36 : decode cX8_lay 36 = .ok (.iload_n 1, 1) := by decide +kernel
theorem dX8_lay_37 : decode cX8_lay 37 = .ok (.iload 6, 2) := by decide +kernel
theorem dX8_lay_39 : decode cX8_lay 39 = .ok (.iload 5, 2) := by decide +kernel
theorem dX8_lay_41 : decode cX8_lay 41 = .ok (.invokestatic 77, 3) := by decide +kernel
theorem dX8_lay_44 : decode cX8_lay 44 = .ok (.baload, 1) := by decide +kernel
theorem dX8_lay_45 : decode cX8_lay 45 = .ok (.ifCond .eq 34, 3) := by decide +kernel
theorem dX8_lay_48 : decode cX8_lay 48 = .ok (.aload_n 0, 1) := by decide +kernel
theorem dX8_lay_49 : decode cX8_lay 49 = .ok (.getfield 16, 3) := by decide +kernel
theorem dX8_lay_52 : decode cX8_lay 52 = .ok (.iload_n 2, 1) := by decide +kernel
theorem dX8_lay_53 : decode cX8_lay 53 = .ok (.iload 6, 2) := by decide +kernel
theorem dX8_lay_55 : decode cX8_lay 55 = .ok (.iload_n 3, 1) := by decide +kernel
theorem dX8_lay_56 : decode cX8_lay 56 = .ok (.iadd, 1) := by decide +kernel
theorem dX8_lay_57 : decode cX8_lay 57 = .ok (.iload 5, 2) := by decide +kernel
theorem dX8_lay_59 : decode cX8_lay 59 = .ok (.iload 4, 2) := by decide +kernel
theorem dX8_lay_61 : decode cX8_lay 61 = .ok (.iadd, 1) := by decide +kernel
theorem dX8_lay_62 : decode cX8_lay 62 = .ok (.invokestatic 77, 3) := by decide +kernel
theorem dX8_lay_65 : decode cX8_lay 65 = .ok (.aload_n 0, 1) := by decide +kernel
theorem dX8_lay_66 : decode cX8_lay 66 = .ok (.getfield 16, 3) := by decide +kernel
theorem dX8_lay_69 : decode cX8_lay 69 = .ok (.iload_n 1, 1) := by decide +kernel
theorem dX8_lay_70 : decode cX8_lay 70 = .ok (.iload 6, 2) := by decide +kernel
theorem dX8_lay_72 : decode cX8_lay 72 = .ok (.iload 5, 2) := by decide +kernel
theorem dX8_lay_74 : decode cX8_lay 74 = .ok (.invokestatic 77, 3) := by decide +kernel
theorem dX8_lay_77 : decode cX8_lay 77 = .ok (.baload, 1) := by decide +kernel
theorem dX8_lay_78 : decode cX8_lay 78 = .ok (.bastore, 1) := by decide +kernel
theorem dX8_lay_79 : decode cX8_lay 79 = .ok (.iinc 6 1, 3) := by decide +kernel
theorem dX8_lay_82 : decode cX8_lay 82 = .ok (.goto (-63), 3) := by decide +kernel
theorem dX8_lay_85 : decode cX8_lay 85 = .ok (.iinc 5 1, 3) := by decide +kernel
theorem dX8_lay_88 : decode cX8_lay 88 = .ok (.goto (-85), 3) := by decide +kernel
theorem dX8_lay_91 : decode cX8_lay 91 = .ok (.return_, 1) := by decide +kernel
theorem dX8_turn_0 : decode cX8_turn 0 = .ok (.aload_n 0, 1) := by decide +kernel
theorem dX8_turn_1 : decode cX8_turn 1 = .ok (.iload_n 1, 1) := by decide +kernel
theorem dX8_turn_2 : decode cX8_turn 2 = .ok (.bipush 19, 2) := by decide +kernel
theorem dX8_turn_4 : decode cX8_turn 4 = .ok (.invokevirtual 128, 3) := by decide +kernel
theorem dX8_turn_7 : decode cX8_turn 7 = .ok (.aload_n 0, 1) := by decide +kernel
theorem dX8_turn_8 : decode cX8_turn 8 = .ok (.iload_n 1, 1) := by decide +kernel
theorem dX8_turn_9 : decode cX8_turn 9 = .ok (.aload_n 0, 1) := by decide +kernel
theorem dX8_turn_10 : decode cX8_turn 10 = .ok (.getfield 13, 3) := by decide +kernel
theorem dX8_turn_13 : decode cX8_turn 13 = .ok (.bipush 19, 2) := by decide +kernel
theorem dX8_turn_15 : decode cX8_turn 15 = .ok (.iaload, 1) := by decide +kernel
theorem dX8_turn_16 : decode cX8_turn 16 = .ok (.aload_n 0, 1) := by decide +kernel
theorem dX8_turn_17 : decode cX8_turn 17 = .ok (.getfield 7, 3) := by decide +kernel
theorem dX8_turn_20 : decode cX8_turn 20 = .ok (.bipush 19, 2) := by decide +kernel
theorem dX8_turn_22 : decode cX8_turn 22 = .ok (.iaload, 1) := by decide +kernel
theorem dX8_turn_23 : decode cX8_turn 23 = .ok (.invokevirtual 132, 3) := by decide +kernel
theorem dX8_turn_26 : decode cX8_turn 26 = .ok (.iconst 0, 1) := by decide +kernel
theorem dX8_turn_27 : decode cX8_turn 27 = .ok (.istore_n 2, 1) := by decide +kernel
theorem dX8_turn_28 : decode cX8_turn 28 = .ok (.iload_n 2, 1) := by decide +kernel
theorem dX8_turn_29 : decode cX8_turn 29 = .ok (.iconst 2, 1) := by decide +kernel
theorem dX8_turn_30 : decode cX8_turn 30 = .ok (.aload_n 0, 1) := by decide +kernel
theorem dX8_turn_31 : decode cX8_turn 31 = .ok (.getfield 13, 3) := by decide +kernel
theorem dX8_turn_34 : decode cX8_turn 34 = .ok (.bipush 19, 2) := by decide +kernel
theorem dX8_turn_36 : decode cX8_turn 36 = .ok (.iaload, 1) := by decide +kernel
theorem dX8_turn_37 : decode cX8_turn 37 = .ok (.imul, 1) := by decide +kernel
theorem dX8_turn_38 : decode cX8_turn 38 = .ok (.if_icmp .gt 79, 3) := by decide +kernel
theorem dX8_turn_41 : decode cX8_turn 41 = .ok (.iconst 0, 1) := by decide +kernel
theorem dX8_turn_42 : decode cX8_turn 42 = .ok (.istore_n 3, 1) := by decide +kernel
theorem dX8_turn_43 : decode cX8_turn 43 = .ok (.iload_n 3, 1) := by decide +kernel
theorem dX8_turn_44 : decode cX8_turn 44 = .ok (.iconst 2, 1) := by decide +kernel
theorem dX8_turn_45 : decode cX8_turn 45 = .ok (.aload_n 0, 1) := by decide +kernel
theorem dX8_turn_46 : decode cX8_turn 46 = .ok (.getfield 7, 3) := by decide +kernel
theorem dX8_turn_49 : decode cX8_turn 49 = .ok (.bipush 19, 2) := by decide +kernel
theorem dX8_turn_51 : decode cX8_turn 51 = .ok (.iaload, 1) := by decide +kernel
theorem dX8_turn_52 : decode cX8_turn 52 = .ok (.imul, 1) := by decide +kernel
theorem dX8_turn_53 : decode cX8_turn 53 = .ok (.if_icmp .gt 58, 3) := by decide +kernel
theorem dX8_turn_56 : decode cX8_turn 56 = .ok (.aload_n 0, 1) := by decide +kernel
theorem dX8_turn_57 : decode cX8_turn 57 = .ok (.getfield 16, 3) := by decide +kernel
theorem dX8_turn_60 : decode cX8_turn 60 = .ok (.bipush 19, 2) := by decide +kernel
theorem dX8_turn_62 : decode cX8_turn 62 = .ok (.iload_n 3, 1) := by decide +kernel
theorem dX8_turn_63 : decode cX8_turn 63 = .ok (.iload_n 2, 1) := by decide +kernel
theorem dX8_turn_64 : decode cX8_turn 64 = .ok (.invokestatic 77, 3) := by decide +kernel
theorem dX8_turn_67 : decode cX8_turn 67 = .ok (.baload, 1) := by decide +kernel
theorem dX8_turn_68 : decode cX8_turn 68 = .ok (.istore 4, 2) := by decide +kernel
theorem dX8_turn_70 : decode cX8_turn 70 = .ok (.aload_n 0, 1) := by decide +kernel
theorem dX8_turn_71 : decode cX8_turn 71 = .ok (.getfield 16, 3) := by decide +kernel
theorem dX8_turn_74 : decode cX8_turn 74 = .ok (.iload_n 1, 1) := by decide +kernel
theorem dX8_turn_75 : decode cX8_turn 75 = .ok (.iconst 2, 1) := by decide +kernel
theorem dX8_turn_76 : decode cX8_turn 76 = .ok (.aload_n 0, 1) := by decide +kernel
theorem dX8_turn_77 : decode cX8_turn 77 = .ok (.getfield 13, 3) := by decide +kernel
theorem dX8_turn_80 : decode cX8_turn 80 = .ok (.bipush 19, 2) := by decide +kernel
theorem dX8_turn_82 : decode cX8_turn 82 = .ok (.iaload, 1) := by decide +kernel
theorem dX8_turn_83 : decode cX8_turn 83 = .ok (.imul, 1) := by decide +kernel
theorem dX8_turn_84 : decode cX8_turn 84 = .ok (.iload_n 2, 1) := by decide +kernel
theorem dX8_turn_85 : decode cX8_turn 85 = .ok (.isub, 1) := by decide +kernel
theorem dX8_turn_86 : decode cX8_turn 86 = .ok (.iload_n 3, 1) := by decide +kernel
theorem dX8_turn_87 : decode cX8_turn 87 = .ok (.invokestatic 77, 3) := by decide +kernel
theorem dX8_turn_90 : decode cX8_turn 90 = .ok (.iload 4, 2) := by decide +kernel
theorem dX8_turn_92 : decode cX8_turn 92 = .ok (.ifCond .ne 7, 3) := by decide +kernel
theorem dX8_turn_95 : decode cX8_turn 95 = .ok (.iconst 0, 1) := by decide +kernel
theorem dX8_turn_96 : decode cX8_turn 96 = .ok (.goto 7, 3) := by decide +kernel
theorem dX8_turn_99 : decode cX8_turn 99 = .ok (.iconst 3, 1) := by decide +kernel
theorem dX8_turn_100 : decode cX8_turn 100 = .ok (.iload 4, 2) := by decide +kernel
theorem dX8_turn_102 : decode cX8_turn 102 = .ok (.isub, 1) := by decide +kernel
theorem dX8_turn_103 : decode cX8_turn 103 = .ok (.i2b, 1) := by decide +kernel
theorem dX8_turn_104 : decode cX8_turn 104 = .ok (.bastore, 1) := by decide +kernel
theorem dX8_turn_105 : decode cX8_turn 105 = .ok (.iinc 3 1, 3) := by decide +kernel
theorem dX8_turn_108 : decode cX8_turn 108 = .ok (.goto (-65), 3) := by decide +kernel
theorem dX8_turn_111 : decode cX8_turn 111 = .ok (.iinc 2 1, 3) := by decide +kernel
theorem dX8_turn_114 : decode cX8_turn 114 = .ok (.goto (-86), 3) := by decide +kernel
theorem dX8_turn_117 : decode cX8_turn 117 = .ok (.return_, 1) := by decide +kernel
theorem dX8_flip_0 : decode cX8_flip 0 = .ok (.aload_n 0, 1) := by decide +kernel
theorem dX8_flip_1 : decode cX8_flip 1 = .ok (.iload_n 1, 1) := by decide +kernel
theorem dX8_flip_2 : decode cX8_flip 2 = .ok (.bipush 19, 2) := by decide +kernel
theorem dX8_flip_4 : decode cX8_flip 4 = .ok (.invokevirtual 128, 3) := by decide +kernel
theorem dX8_flip_7 : decode cX8_flip 7 = .ok (.iconst 0, 1) := by decide +kernel
theorem dX8_flip_8 : decode cX8_flip 8 = .ok (.istore_n 2, 1) := by decide +kernel
theorem dX8_flip_9 : decode cX8_flip 9 = .ok (.iload_n 2, 1) := by decide +kernel
theorem dX8_flip_10 : decode cX8_flip 10 = .ok (.iconst 2, 1) := by decide +kernel
theorem dX8_flip_11 : decode cX8_flip 11 = .ok (.aload_n 0, 1) := by decide +kernel
theorem dX8_flip_12 : decode cX8_flip 12 = .ok (.getfield 13, 3) := by decide +kernel
theorem dX8_flip_15 : decode cX8_flip 15 = .ok (.bipush 19, 2) := by decide +kernel
theorem dX8_flip_17 : decode cX8_flip 17 = .ok (.iaload, 1) := by decide +kernel
theorem dX8_flip_18 : decode cX8_flip 18 = .ok (.imul, 1) := by decide +kernel
theorem dX8_flip_19 : decode cX8_flip 19 = .ok (.if_icmp .gt 63, 3) := by decide +kernel
theorem dX8_flip_22 : decode cX8_flip 22 = .ok (.iconst 0, 1) := by decide +kernel
theorem dX8_flip_23 : decode cX8_flip 23 = .ok (.istore_n 3, 1) := by decide +kernel
theorem dX8_flip_24 : decode cX8_flip 24 = .ok (.iload_n 3, 1) := by decide +kernel
theorem dX8_flip_25 : decode cX8_flip 25 = .ok (.iconst 2, 1) := by decide +kernel
theorem dX8_flip_26 : decode cX8_flip 26 = .ok (.aload_n 0, 1) := by decide +kernel
theorem dX8_flip_27 : decode cX8_flip 27 = .ok (.getfield 7, 3) := by decide +kernel
theorem dX8_flip_30 : decode cX8_flip 30 = .ok (.bipush 19, 2) := by decide +kernel
theorem dX8_flip_32 : decode cX8_flip 32 = .ok (.iaload, 1) := by decide +kernel
theorem dX8_flip_33 : decode cX8_flip 33 = .ok (.imul, 1) := by decide +kernel
theorem dX8_flip_34 : decode cX8_flip 34 = .ok (.if_icmp .gt 42, 3) := by decide +kernel
theorem dX8_flip_37 : decode cX8_flip 37 = .ok (.aload_n 0, 1) := by decide +kernel
theorem dX8_flip_38 : decode cX8_flip 38 = .ok (.getfield 16, 3) := by decide +kernel
theorem dX8_flip_41 : decode cX8_flip 41 = .ok (.iload_n 1, 1) := by decide +kernel
theorem dX8_flip_42 : decode cX8_flip 42 = .ok (.iconst 2, 1) := by decide +kernel
theorem dX8_flip_43 : decode cX8_flip 43 = .ok (.aload_n 0, 1) := by decide +kernel
theorem dX8_flip_44 : decode cX8_flip 44 = .ok (.getfield 7, 3) := by decide +kernel
theorem dX8_flip_47 : decode cX8_flip 47 = .ok (.bipush 19, 2) := by decide +kernel
theorem dX8_flip_49 : decode cX8_flip 49 = .ok (.iaload, 1) := by decide +kernel
theorem dX8_flip_50 : decode cX8_flip 50 = .ok (.imul, 1) := by decide +kernel
theorem dX8_flip_51 : decode cX8_flip 51 = .ok (.iload_n 3, 1) := by decide +kernel
theorem dX8_flip_52 : decode cX8_flip 52 = .ok (.isub, 1) := by decide +kernel
theorem dX8_flip_53 : decode cX8_flip 53 = .ok (.iload_n 2, 1) := by decide +kernel
theorem dX8_flip_54 : decode cX8_flip 54 = .ok (.invokestatic 77, 3) := by decide +kernel
theorem dX8_flip_57 : decode cX8_flip 57 = .ok (.aload_n 0, 1) := by decide +kernel
theorem dX8_flip_58 : decode cX8_flip 58 = .ok (.getfield 16, 3) := by decide +kernel
theorem dX8_flip_61 : decode cX8_flip 61 = .ok (.bipush 19, 2) := by decide +kernel
theorem dX8_flip_63 : decode cX8_flip 63 = .ok (.iload_n 3, 1) := by decide +kernel
theorem dX8_flip_64 : decode cX8_flip 64 = .ok (.iload_n 2, 1) := by decide +kernel
theorem dX8_flip_65 : decode cX8_flip 65 = .ok (.invokestatic 77, 3) := by decide +kernel
theorem dX8_flip_68 : decode cX8_flip 68 = .ok (.baload, 1) := by decide +kernel
theorem dX8_flip_69 : decode cX8_flip 69 = .ok (.bastore, 1) := by decide +kernel
theorem dX8_flip_70 : decode cX8_flip 70 = .ok (.iinc 3 1, 3) := by decide +kernel
theorem dX8_flip_73 : decode cX8_flip 73 = .ok (.goto (-49), 3) := by decide +kernel
theorem dX8_flip_76 : decode cX8_flip 76 = .ok (.iinc 2 1, 3) := by decide +kernel
theorem dX8_flip_79 : decode cX8_flip 79 = .ok (.goto (-70), 3) := by decide +kernel
theorem dX8_flip_82 : decode cX8_flip 82 = .ok (.return_, 1) := by decide +kernel
theorem dX8_see_0 : decode cX8_see 0 = .ok (.iload_n 1, 1) := by decide +kernel
theorem dX8_see_1 : decode cX8_see 1 = .ok (.aload_n 0, 1) := by decide +kernel
theorem dX8_see_2 : decode cX8_see 2 = .ok (.getfield 121, 3) := by decide +kernel
theorem dX8_see_5 : decode cX8_see 5 = .ok (.if_icmp .ge 12, 3) := by decide +kernel
theorem dX8_see_8 : decode cX8_see 8 = .ok (.aload_n 0, 1) := by decide +kernel
theorem dX8_see_9 : decode cX8_see 9 = .ok (.getfield 42, 3) := by decide +kernel
theorem dX8_see_12 : decode cX8_see 12 = .ok (.iload_n 1, 1) := by decide +kernel
theorem dX8_see_13 : decode cX8_see 13 = .ok (.iaload, 1) := by decide +kernel
theorem dX8_see_14 : decode cX8_see 14 = .ok (.goto 4, 3) := by decide +kernel
theorem dX8_see_17 : decode cX8_see 17 = .ok (.iconst (-1), 1) := by decide +kernel
theorem dX8_see_18 : decode cX8_see 18 = .ok (.ireturn, 1) := by decide +kernel
theorem dX8_isDigit_0 : decode cX8_isDigit 0 = .ok (.iload_n 0, 1) := by decide +kernel
theorem dX8_isDigit_1 : decode cX8_isDigit 1 = .ok (.bipush 48, 2) := by decide +kernel
theorem dX8_isDigit_3 : decode cX8_isDigit 3 = .ok (.bipush 57, 2) := by decide +kernel
theorem dX8_isDigit_5 : decode cX8_isDigit 5 = .ok (.invokestatic 70, 3) := by decide +kernel
theorem dX8_isDigit_8 : decode cX8_isDigit 8 = .ok (.ireturn, 1) := by decide +kernel
theorem dX8_add_0 : decode cX8_add 0 = .ok (.lload_n 0, 1) := by decide +kernel
theorem dX8_add_1 : decode cX8_add 1 = .ok (.bipush 8, 2) := by decide +kernel
theorem dX8_add_3 : decode cX8_add 3 = .ok (.lshl, 1) := by decide +kernel
theorem dX8_add_4 : decode cX8_add 4 = .ok (.iload_n 2, 1) := by decide +kernel
theorem dX8_add_5 : decode cX8_add 5 = .ok (.i2l, 1) := by decide +kernel
theorem dX8_add_6 : decode cX8_add 6 = .ok (.lor, 1) := by decide +kernel
theorem dX8_add_7 : decode cX8_add 7 = .ok (.bipush 8, 2) := by decide +kernel
theorem dX8_add_9 : decode cX8_add 9 = .ok (.lshl, 1) := by decide +kernel
theorem dX8_add_10 : decode cX8_add 10 = .ok (.iload_n 3, 1) := by decide +kernel
theorem dX8_add_11 : decode cX8_add 11 = .ok (.i2l, 1) := by decide +kernel
theorem dX8_add_12 : decode cX8_add 12 = .ok (.lor, 1) := by decide +kernel
theorem dX8_add_13 : decode cX8_add 13 = .ok (.lreturn, 1) := by decide +kernel
theorem dX8_wordOf_0 : decode cX8_wordOf 0 = .ok (.lload_n 0, 1) := by decide +kernel
theorem dX8_wordOf_1 : decode cX8_wordOf 1 = .ok (.ldc2_w 136, 3) := by decide +kernel
theorem dX8_wordOf_4 : decode cX8_wordOf 4 = .ok (.bipush 108, 2) := by decide +kernel
theorem dX8_wordOf_6 : decode cX8_wordOf 6 = .ok (.bipush 97, 2) := by decide +kernel
theorem dX8_wordOf_8 : decode cX8_wordOf 8 = .ok (.invokestatic 138, 3) := by decide +kernel
theorem dX8_wordOf_11 : decode cX8_wordOf 11 = .ok (.bipush 105, 2) := by decide +kernel
theorem dX8_wordOf_13 : decode cX8_wordOf 13 = .ok (.bipush 110, 2) := by decide +kernel
theorem dX8_wordOf_15 : decode cX8_wordOf 15 = .ok (.invokestatic 138, 3) := by decide +kernel
theorem dX8_wordOf_18 : decode cX8_wordOf 18 = .ok (.lcmp, 1) := by decide +kernel
theorem dX8_wordOf_19 : decode cX8_wordOf 19 = .ok (.ifCond .ne 5, 3) := by decide +kernel
theorem dX8_wordOf_22 : decode cX8_wordOf 22 = .ok (.iconst 3, 1) := by decide +kernel
theorem dX8_wordOf_23 : decode cX8_wordOf 23 = .ok (.ireturn, 1) := by decide +kernel
theorem dX8_wordOf_24 : decode cX8_wordOf 24 = .ok (.lload_n 0, 1) := by decide +kernel
theorem dX8_wordOf_25 : decode cX8_wordOf 25 = .ok (.lconst 0, 1) := by decide +kernel
theorem dX8_wordOf_26 : decode cX8_wordOf 26 = .ok (.bipush 107, 2) := by decide +kernel
theorem dX8_wordOf_28 : decode cX8_wordOf 28 = .ok (.bipush 101, 2) := by decide +kernel
theorem dX8_wordOf_30 : decode cX8_wordOf 30 = .ok (.invokestatic 138, 3) := by decide +kernel
theorem dX8_wordOf_33 : decode cX8_wordOf 33 = .ok (.bipush 112, 2) := by decide +kernel
theorem dX8_wordOf_35 : decode cX8_wordOf 35 = .ok (.bipush 116, 2) := by decide +kernel
theorem dX8_wordOf_37 : decode cX8_wordOf 37 = .ok (.invokestatic 138, 3) := by decide +kernel
theorem dX8_wordOf_40 : decode cX8_wordOf 40 = .ok (.lcmp, 1) := by decide +kernel
theorem dX8_wordOf_41 : decode cX8_wordOf 41 = .ok (.ifCond .ne 5, 3) := by decide +kernel
theorem dX8_wordOf_44 : decode cX8_wordOf 44 = .ok (.iconst 4, 1) := by decide +kernel
theorem dX8_wordOf_45 : decode cX8_wordOf 45 = .ok (.ireturn, 1) := by decide +kernel
theorem dX8_wordOf_46 : decode cX8_wordOf 46 = .ok (.lload_n 0, 1) := by decide +kernel
theorem dX8_wordOf_47 : decode cX8_wordOf 47 = .ok (.ldc2_w 142, 3) := by decide +kernel
theorem dX8_wordOf_50 : decode cX8_wordOf 50 = .ok (.bipush 101, 2) := by decide +kernel
theorem dX8_wordOf_52 : decode cX8_wordOf 52 = .ok (.bipush 116, 2) := by decide +kernel
theorem dX8_wordOf_54 : decode cX8_wordOf 54 = .ok (.invokestatic 138, 3) := by decide +kernel
theorem dX8_wordOf_57 : decode cX8_wordOf 57 = .ok (.lcmp, 1) := by decide +kernel
theorem dX8_wordOf_58 : decode cX8_wordOf 58 = .ok (.ifCond .ne 5, 3) := by decide +kernel
theorem dX8_wordOf_61 : decode cX8_wordOf 61 = .ok (.iconst 5, 1) := by decide +kernel
theorem dX8_wordOf_62 : decode cX8_wordOf 62 = .ok (.ireturn, 1) := by decide +kernel
theorem dX8_wordOf_63 : decode cX8_wordOf 63 = .ok (.lload_n 0, 1) := by decide +kernel
theorem dX8_wordOf_64 : decode cX8_wordOf 64 = .ok (.lconst 0, 1) := by decide +kernel
theorem dX8_wordOf_65 : decode cX8_wordOf 65 = .ok (.bipush 116, 2) := by decide +kernel
theorem dX8_wordOf_67 : decode cX8_wordOf 67 = .ok (.bipush 117, 2) := by decide +kernel
theorem dX8_wordOf_69 : decode cX8_wordOf 69 = .ok (.invokestatic 138, 3) := by decide +kernel
theorem dX8_wordOf_72 : decode cX8_wordOf 72 = .ok (.bipush 114, 2) := by decide +kernel
theorem dX8_wordOf_74 : decode cX8_wordOf 74 = .ok (.bipush 110, 2) := by decide +kernel
theorem dX8_wordOf_76 : decode cX8_wordOf 76 = .ok (.invokestatic 138, 3) := by decide +kernel
theorem dX8_wordOf_79 : decode cX8_wordOf 79 = .ok (.lcmp, 1) := by decide +kernel
theorem dX8_wordOf_80 : decode cX8_wordOf 80 = .ok (.ifCond .ne 6, 3) := by decide +kernel
theorem dX8_wordOf_83 : decode cX8_wordOf 83 = .ok (.bipush 6, 2) := by decide +kernel
theorem dX8_wordOf_85 : decode cX8_wordOf 85 = .ok (.ireturn, 1) := by decide +kernel
theorem dX8_wordOf_86 : decode cX8_wordOf 86 = .ok (.lload_n 0, 1) := by decide +kernel
theorem dX8_wordOf_87 : decode cX8_wordOf 87 = .ok (.lconst 0, 1) := by decide +kernel
theorem dX8_wordOf_88 : decode cX8_wordOf 88 = .ok (.bipush 102, 2) := by decide +kernel
theorem dX8_wordOf_90 : decode cX8_wordOf 90 = .ok (.bipush 108, 2) := by decide +kernel
theorem dX8_wordOf_92 : decode cX8_wordOf 92 = .ok (.invokestatic 138, 3) := by decide +kernel
theorem dX8_wordOf_95 : decode cX8_wordOf 95 = .ok (.bipush 105, 2) := by decide +kernel
theorem dX8_wordOf_97 : decode cX8_wordOf 97 = .ok (.bipush 112, 2) := by decide +kernel
theorem dX8_wordOf_99 : decode cX8_wordOf 99 = .ok (.invokestatic 138, 3) := by decide +kernel
theorem dX8_wordOf_102 : decode cX8_wordOf 102 = .ok (.lcmp, 1) := by decide +kernel
theorem dX8_wordOf_103 : decode cX8_wordOf 103 = .ok (.ifCond .ne 6, 3) := by decide +kernel
theorem dX8_wordOf_106 : decode cX8_wordOf 106 = .ok (.bipush 7, 2) := by decide +kernel
theorem dX8_wordOf_108 : decode cX8_wordOf 108 = .ok (.ireturn, 1) := by decide +kernel
theorem dX8_wordOf_109 : decode cX8_wordOf 109 = .ok (.lload_n 0, 1) := by decide +kernel
theorem dX8_wordOf_110 : decode cX8_wordOf 110 = .ok (.ldc2_w 144, 3) := by decide +kernel
theorem dX8_wordOf_113 : decode cX8_wordOf 113 = .ok (.bipush 111, 2) := by decide +kernel
theorem dX8_wordOf_115 : decode cX8_wordOf 115 = .ok (.bipush 119, 2) := by decide +kernel
theorem dX8_wordOf_117 : decode cX8_wordOf 117 = .ok (.invokestatic 138, 3) := by decide +kernel
theorem dX8_wordOf_120 : decode cX8_wordOf 120 = .ok (.lcmp, 1) := by decide +kernel
theorem dX8_wordOf_121 : decode cX8_wordOf 121 = .ok (.ifCond .ne 6, 3) := by decide +kernel
theorem dX8_wordOf_124 : decode cX8_wordOf 124 = .ok (.bipush 8, 2) := by decide +kernel
theorem dX8_wordOf_126 : decode cX8_wordOf 126 = .ok (.ireturn, 1) := by decide +kernel
theorem dX8_wordOf_127 : decode cX8_wordOf 127 = .ok (.lload_n 0, 1) := by decide +kernel
theorem dX8_wordOf_128 : decode cX8_wordOf 128 = .ok (.lconst 0, 1) := by decide +kernel
theorem dX8_wordOf_129 : decode cX8_wordOf 129 = .ok (.bipush 98, 2) := by decide +kernel
theorem dX8_wordOf_131 : decode cX8_wordOf 131 = .ok (.bipush 101, 2) := by decide +kernel
theorem dX8_wordOf_133 : decode cX8_wordOf 133 = .ok (.invokestatic 138, 3) := by decide +kernel
theorem dX8_wordOf_136 : decode cX8_wordOf 136 = .ok (.bipush 115, 2) := by decide +kernel
theorem dX8_wordOf_138 : decode cX8_wordOf 138 = .ok (.bipush 105, 2) := by decide +kernel
theorem dX8_wordOf_140 : decode cX8_wordOf 140 = .ok (.invokestatic 138, 3) := by decide +kernel
theorem dX8_wordOf_143 : decode cX8_wordOf 143 = .ok (.bipush 100, 2) := by decide +kernel
theorem dX8_wordOf_145 : decode cX8_wordOf 145 = .ok (.bipush 101, 2) := by decide +kernel
theorem dX8_wordOf_147 : decode cX8_wordOf 147 = .ok (.invokestatic 138, 3) := by decide +kernel
theorem dX8_wordOf_150 : decode cX8_wordOf 150 = .ok (.lcmp, 1) := by decide +kernel
theorem dX8_wordOf_151 : decode cX8_wordOf 151 = .ok (.ifCond .ne 6, 3) := by decide +kernel
theorem dX8_wordOf_154 : decode cX8_wordOf 154 = .ok (.bipush 9, 2) := by decide +kernel
theorem dX8_wordOf_156 : decode cX8_wordOf 156 = .ok (.ireturn, 1) := by decide +kernel
theorem dX8_wordOf_157 : decode cX8_wordOf 157 = .ok (.lload_n 0, 1) := by decide +kernel
theorem dX8_wordOf_158 : decode cX8_wordOf 158 = .ok (.ldc2_w 146, 3) := by decide +kernel
theorem dX8_wordOf_161 : decode cX8_wordOf 161 = .ok (.bipush 98, 2) := by decide +kernel
theorem dX8_wordOf_163 : decode cX8_wordOf 163 = .ok (.bipush 111, 2) := by decide +kernel
theorem dX8_wordOf_165 : decode cX8_wordOf 165 = .ok (.invokestatic 138, 3) := by decide +kernel
theorem dX8_wordOf_168 : decode cX8_wordOf 168 = .ok (.bipush 118, 2) := by decide +kernel
theorem dX8_wordOf_170 : decode cX8_wordOf 170 = .ok (.bipush 101, 2) := by decide +kernel
theorem dX8_wordOf_172 : decode cX8_wordOf 172 = .ok (.invokestatic 138, 3) := by decide +kernel
theorem dX8_wordOf_175 : decode cX8_wordOf 175 = .ok (.lcmp, 1) := by decide +kernel
theorem dX8_wordOf_176 : decode cX8_wordOf 176 = .ok (.ifCond .ne 6, 3) := by decide +kernel
theorem dX8_wordOf_179 : decode cX8_wordOf 179 = .ok (.bipush 10, 2) := by decide +kernel
theorem dX8_wordOf_181 : decode cX8_wordOf 181 = .ok (.ireturn, 1) := by decide +kernel
theorem dX8_wordOf_182 : decode cX8_wordOf 182 = .ok (.lload_n 0, 1) := by decide +kernel
theorem dX8_wordOf_183 : decode cX8_wordOf 183 = .ok (.lconst 0, 1) := by decide +kernel
theorem dX8_wordOf_184 : decode cX8_wordOf 184 = .ok (.bipush 111, 2) := by decide +kernel
theorem dX8_wordOf_186 : decode cX8_wordOf 186 = .ok (.bipush 118, 2) := by decide +kernel
theorem dX8_wordOf_188 : decode cX8_wordOf 188 = .ok (.invokestatic 138, 3) := by decide +kernel
theorem dX8_wordOf_191 : decode cX8_wordOf 191 = .ok (.bipush 101, 2) := by decide +kernel
theorem dX8_wordOf_193 : decode cX8_wordOf 193 = .ok (.bipush 114, 2) := by decide +kernel
theorem dX8_wordOf_195 : decode cX8_wordOf 195 = .ok (.invokestatic 138, 3) := by decide +kernel
theorem dX8_wordOf_198 : decode cX8_wordOf 198 = .ok (.lcmp, 1) := by decide +kernel
theorem dX8_wordOf_199 : decode cX8_wordOf 199 = .ok (.ifCond .ne 8, 3) := by decide +kernel
theorem dX8_wordOf_202 : decode cX8_wordOf 202 = .ok (.bipush 11, 2) := by decide +kernel
theorem dX8_wordOf_204 : decode cX8_wordOf 204 = .ok (.goto 4, 3) := by decide +kernel
theorem dX8_wordOf_207 : decode cX8_wordOf 207 = .ok (.iconst 2, 1) := by decide +kernel
theorem dX8_wordOf_208 : decode cX8_wordOf 208 = .ok (.ireturn, 1) := by decide +kernel
theorem dX8_nextToken_0 : decode cX8_nextToken 0 = .ok (.aload_n 0, 1) := by decide +kernel
theorem dX8_nextToken_1 : decode cX8_nextToken 1 = .ok (.aload_n 0, 1) := by decide +kernel
theorem dX8_nextToken_2 : decode cX8_nextToken 2 = .ok (.getfield 148, 3) := by decide +kernel
theorem dX8_nextToken_5 : decode cX8_nextToken 5 = .ok (.invokevirtual 151, 3) := by decide +kernel
theorem dX8_nextToken_8 : decode cX8_nextToken 8 = .ok (.bipush 32, 2) := by decide +kernel
theorem dX8_nextToken_10 : decode cX8_nextToken 10 = .ok (.if_icmp .eq 16, 3) := by decide +kernel
theorem dX8_nextToken_13 : decode cX8_nextToken 13 = .ok (.aload_n 0, 1) := by decide +kernel
theorem dX8_nextToken_14 : decode cX8_nextToken 14 = .ok (.aload_n 0, 1) := by decide +kernel
theorem dX8_nextToken_15 : decode cX8_nextToken 15 = .ok (.getfield 148, 3) := by decide +kernel
theorem dX8_nextToken_18 : decode cX8_nextToken 18 = .ok (.invokevirtual 151, 3) := by decide +kernel
theorem dX8_nextToken_21 : decode cX8_nextToken 21 = .ok (.bipush 10, 2) := by decide +kernel
theorem dX8_nextToken_23 : decode cX8_nextToken 23 = .ok (.if_icmp .ne 16, 3) := by decide +kernel
theorem dX8_nextToken_26 : decode cX8_nextToken 26 = .ok (.aload_n 0, 1) := by decide +kernel
theorem dX8_nextToken_27 : decode cX8_nextToken 27 = .ok (.dup, 1) := by decide +kernel
theorem dX8_nextToken_28 : decode cX8_nextToken 28 = .ok (.getfield 148, 3) := by decide +kernel
theorem dX8_nextToken_31 : decode cX8_nextToken 31 = .ok (.iconst 1, 1) := by decide +kernel
theorem dX8_nextToken_32 : decode cX8_nextToken 32 = .ok (.iadd, 1) := by decide +kernel
theorem dX8_nextToken_33 : decode cX8_nextToken 33 = .ok (.putfield 148, 3) := by decide +kernel
theorem dX8_nextToken_36 : decode cX8_nextToken 36 = .ok (.goto (-36), 3) := by decide +kernel
theorem dX8_nextToken_39 : decode cX8_nextToken 39 = .ok (.aload_n 0, 1) := by decide +kernel
theorem dX8_nextToken_40 : decode cX8_nextToken 40 = .ok (.aload_n 0, 1) := by decide +kernel
theorem dX8_nextToken_41 : decode cX8_nextToken 41 = .ok (.getfield 148, 3) := by decide +kernel
theorem dX8_nextToken_44 : decode cX8_nextToken 44 = .ok (.putfield 154, 3) := by decide +kernel
theorem dX8_nextToken_47 : decode cX8_nextToken 47 = .ok (.aload_n 0, 1) := by decide +kernel
theorem dX8_nextToken_48 : decode cX8_nextToken 48 = .ok (.aload_n 0, 1) := by decide +kernel
theorem dX8_nextToken_49 : decode cX8_nextToken 49 = .ok (.getfield 148, 3) := by decide +kernel
theorem dX8_nextToken_52 : decode cX8_nextToken 52 = .ok (.invokevirtual 151, 3) := by decide +kernel
theorem dX8_nextToken_55 : decode cX8_nextToken 55 = .ok (.istore_n 1, 1) := by decide +kernel
theorem dX8_nextToken_56 : decode cX8_nextToken 56 = .ok (.iload_n 1, 1) := by decide +kernel
theorem dX8_nextToken_57 : decode cX8_nextToken 57 = .ok (.ifCond .ge 11, 3) := by decide +kernel
theorem dX8_nextToken_60 : decode cX8_nextToken 60 = .ok (.aload_n 0, 1) := by decide +kernel
theorem dX8_nextToken_61 : decode cX8_nextToken 61 = .ok (.iconst 0, 1) := by decide +kernel
theorem dX8_nextToken_62 : decode cX8_nextToken 62 = .ok (.putfield 157, 3) := by decide +kernel
theorem dX8_nextToken_65 : decode cX8_nextToken 65 = .ok (.goto 197, 3) := by decide +kernel
theorem dX8_nextToken_68 : decode cX8_nextToken 68 = .ok (.iload_n 1, 1) := by decide +kernel
theorem dX8_nextToken_69 : decode cX8_nextToken 69 = .ok (.invokestatic 160, 3) := by decide +kernel
theorem dX8_nextToken_72 : decode cX8_nextToken 72 = .ok (.ifCond .eq 73, 3) := by decide +kernel
theorem dX8_nextToken_75 : decode cX8_nextToken 75 = .ok (.aload_n 0, 1) := by decide +kernel
theorem dX8_nextToken_76 : decode cX8_nextToken 76 = .ok (.iconst 1, 1) := by decide +kernel
theorem dX8_nextToken_77 : decode cX8_nextToken 77 = .ok (.putfield 157, 3) := by decide +kernel
theorem dX8_nextToken_80 : decode cX8_nextToken 80 = .ok (.aload_n 0, 1) := by decide +kernel
theorem dX8_nextToken_81 : decode cX8_nextToken 81 = .ok (.iconst 0, 1) := by decide +kernel
theorem dX8_nextToken_82 : decode cX8_nextToken 82 = .ok (.putfield 163, 3) := by decide +kernel
theorem dX8_nextToken_85 : decode cX8_nextToken 85 = .ok (.aload_n 0, 1) := by decide +kernel
theorem dX8_nextToken_86 : decode cX8_nextToken 86 = .ok (.aload_n 0, 1) := by decide +kernel
theorem dX8_nextToken_87 : decode cX8_nextToken 87 = .ok (.getfield 148, 3) := by decide +kernel
theorem dX8_nextToken_90 : decode cX8_nextToken 90 = .ok (.invokevirtual 151, 3) := by decide +kernel
theorem dX8_nextToken_93 : decode cX8_nextToken 93 = .ok (.invokestatic 160, 3) := by decide +kernel
theorem dX8_nextToken_96 : decode cX8_nextToken 96 = .ok (.ifCond .eq 166, 3) := by decide +kernel
theorem dX8_nextToken_99 : decode cX8_nextToken 99 = .ok (.aload_n 0, 1) := by decide +kernel
theorem dX8_nextToken_100 : decode cX8_nextToken 100 = .ok (.getfield 163, 3) := by decide +kernel
theorem dX8_nextToken_103 : decode cX8_nextToken 103 = .ok (.sipush 1000, 3) := by decide +kernel
theorem dX8_nextToken_106 : decode cX8_nextToken 106 = .ok (.if_icmp .ge 26, 3) := by decide +kernel
theorem dX8_nextToken_109 : decode cX8_nextToken 109 = .ok (.aload_n 0, 1) := by decide +kernel
theorem dX8_nextToken_110 : decode cX8_nextToken 110 = .ok (.bipush 10, 2) := by decide +kernel
theorem dX8_nextToken_112 : decode cX8_nextToken 112 = .ok (.aload_n 0, 1) := by decide +kernel
theorem dX8_nextToken_113 : decode cX8_nextToken 113 = .ok (.getfield 163, 3) := by decide +kernel
theorem dX8_nextToken_116 : decode cX8_nextToken 116 = .ok (.imul, 1) := by decide +kernel
theorem dX8_nextToken_117 : decode cX8_nextToken 117 = .ok (.aload_n 0, 1) := by decide +kernel
theorem dX8_nextToken_118 : decode cX8_nextToken 118 = .ok (.aload_n 0, 1) := by decide +kernel
theorem dX8_nextToken_119 : decode cX8_nextToken 119 = .ok (.getfield 148, 3) := by decide +kernel
theorem dX8_nextToken_122 : decode cX8_nextToken 122 = .ok (.invokevirtual 151, 3) := by decide +kernel
theorem dX8_nextToken_125 : decode cX8_nextToken 125 = .ok (.iadd, 1) := by decide +kernel
theorem dX8_nextToken_126 : decode cX8_nextToken 126 = .ok (.bipush 48, 2) := by decide +kernel
theorem dX8_nextToken_128 : decode cX8_nextToken 128 = .ok (.isub, 1) := by decide +kernel
theorem dX8_nextToken_129 : decode cX8_nextToken 129 = .ok (.putfield 163, 3) := by decide +kernel
theorem dX8_nextToken_132 : decode cX8_nextToken 132 = .ok (.aload_n 0, 1) := by decide +kernel
theorem dX8_nextToken_133 : decode cX8_nextToken 133 = .ok (.dup, 1) := by decide +kernel
theorem dX8_nextToken_134 : decode cX8_nextToken 134 = .ok (.getfield 148, 3) := by decide +kernel
theorem dX8_nextToken_137 : decode cX8_nextToken 137 = .ok (.iconst 1, 1) := by decide +kernel
theorem dX8_nextToken_138 : decode cX8_nextToken 138 = .ok (.iadd, 1) := by decide +kernel
theorem dX8_nextToken_139 : decode cX8_nextToken 139 = .ok (.putfield 148, 3) := by decide +kernel
theorem dX8_nextToken_142 : decode cX8_nextToken 142 = .ok (.goto (-57), 3) := by decide +kernel
theorem dX8_nextToken_145 : decode cX8_nextToken 145 = .ok (.iload_n 1, 1) := by decide +kernel
theorem dX8_nextToken_146 : decode cX8_nextToken 146 = .ok (.bipush 97, 2) := by decide +kernel
theorem dX8_nextToken_148 : decode cX8_nextToken 148 = .ok (.bipush 122, 2) := by decide +kernel
theorem dX8_nextToken_150 : decode cX8_nextToken 150 = .ok (.invokestatic 70, 3) := by decide +kernel
theorem dX8_nextToken_153 : decode cX8_nextToken 153 = .ok (.ifCond .eq 94, 3) := by decide +kernel
theorem dX8_nextToken_156 : decode cX8_nextToken 156 = .ok (.lconst 0, 1) := by decide +kernel
theorem dX8_nextToken_157 : decode cX8_nextToken 157 = .ok (.lstore_n 2, 1) := by decide +kernel
theorem dX8_nextToken_158 : decode cX8_nextToken 158 = .ok (.aload_n 0, 1) := by decide +kernel
theorem dX8_nextToken_159 : decode cX8_nextToken 159 = .ok (.aload_n 0, 1) := by decide +kernel
theorem dX8_nextToken_160 : decode cX8_nextToken 160 = .ok (.getfield 148, 3) := by decide +kernel
theorem dX8_nextToken_163 : decode cX8_nextToken 163 = .ok (.invokevirtual 151, 3) := by decide +kernel
theorem dX8_nextToken_166 : decode cX8_nextToken 166 = .ok (.bipush 97, 2) := by decide +kernel
theorem dX8_nextToken_168 : decode cX8_nextToken 168 = .ok (.bipush 122, 2) := by decide +kernel
theorem dX8_nextToken_170 : decode cX8_nextToken 170 = .ok (.invokestatic 70, 3) := by decide +kernel
theorem dX8_nextToken_173 : decode cX8_nextToken 173 = .ok (.ifCond .eq 45, 3) := by decide +kernel
theorem dX8_nextToken_176 : decode cX8_nextToken 176 = .ok (.aload_n 0, 1) := by decide +kernel
theorem dX8_nextToken_177 : decode cX8_nextToken 177 = .ok (.getfield 148, 3) := by decide +kernel
theorem dX8_nextToken_180 : decode cX8_nextToken 180 = .ok (.aload_n 0, 1) := by decide +kernel
theorem dX8_nextToken_181 : decode cX8_nextToken 181 = .ok (.getfield 154, 3) := by decide +kernel
theorem dX8_nextToken_184 : decode cX8_nextToken 184 = .ok (.isub, 1) := by decide +kernel
theorem dX8_nextToken_185 : decode cX8_nextToken 185 = .ok (.bipush 7, 2) := by decide +kernel
theorem dX8_nextToken_187 : decode cX8_nextToken 187 = .ok (.if_icmp .ge 18, 3) := by decide +kernel
theorem dX8_nextToken_190 : decode cX8_nextToken 190 = .ok (.lload_n 2, 1) := by decide +kernel
theorem dX8_nextToken_191 : decode cX8_nextToken 191 = .ok (.bipush 8, 2) := by decide +kernel
theorem dX8_nextToken_193 : decode cX8_nextToken 193 = .ok (.lshl, 1) := by decide +kernel
theorem dX8_nextToken_194 : decode cX8_nextToken 194 = .ok (.aload_n 0, 1) := by decide +kernel
theorem dX8_nextToken_195 : decode cX8_nextToken 195 = .ok (.aload_n 0, 1) := by decide +kernel
theorem dX8_nextToken_196 : decode cX8_nextToken 196 = .ok (.getfield 148, 3) := by decide +kernel
theorem dX8_nextToken_199 : decode cX8_nextToken 199 = .ok (.invokevirtual 151, 3) := by decide +kernel
theorem dX8_nextToken_202 : decode cX8_nextToken 202 = .ok (.i2l, 1) := by decide +kernel
theorem dX8_nextToken_203 : decode cX8_nextToken 203 = .ok (.lor, 1) := by decide +kernel
theorem dX8_nextToken_204 : decode cX8_nextToken 204 = .ok (.lstore_n 2, 1) := by decide +kernel
theorem dX8_nextToken_205 : decode cX8_nextToken 205 = .ok (.aload_n 0, 1) := by decide +kernel
theorem dX8_nextToken_206 : decode cX8_nextToken 206 = .ok (.dup, 1) := by decide +kernel
theorem dX8_nextToken_207 : decode cX8_nextToken 207 = .ok (.getfield 148, 3) := by decide +kernel
theorem dX8_nextToken_210 : decode cX8_nextToken 210 = .ok (.iconst 1, 1) := by decide +kernel
theorem dX8_nextToken_211 : decode cX8_nextToken 211 = .ok (.iadd, 1) := by decide +kernel
theorem dX8_nextToken_212 : decode cX8_nextToken 212 = .ok (.putfield 148, 3) := by decide +kernel
theorem dX8_nextToken_215 : decode cX8_nextToken 215 = .ok (.goto (-57), 3) := by decide +kernel
theorem dX8_nextToken_218 : decode cX8_nextToken 218 = .ok (.aload_n 0, 1) := by decide +kernel
theorem dX8_nextToken_219 : decode cX8_nextToken 219 = .ok (.aload_n 0, 1) := by decide +kernel
theorem dX8_nextToken_220 : decode cX8_nextToken 220 = .ok (.getfield 148, 3) := by decide +kernel
theorem dX8_nextToken_223 : decode cX8_nextToken 223 = .ok (.aload_n 0, 1) := by decide +kernel
theorem dX8_nextToken_224 : decode cX8_nextToken 224 = .ok (.getfield 154, 3) := by decide +kernel
theorem dX8_nextToken_227 : decode cX8_nextToken 227 = .ok (.isub, 1) := by decide +kernel
theorem dX8_nextToken_228 : decode cX8_nextToken 228 = .ok (.bipush 6, 2) := by decide +kernel
theorem dX8_nextToken_230 : decode cX8_nextToken 230 = .ok (.if_icmp .le 7, 3) := by decide +kernel
theorem dX8_nextToken_233 : decode cX8_nextToken 233 = .ok (.iconst 2, 1) := by decide +kernel
theorem dX8_nextToken_234 : decode cX8_nextToken 234 = .ok (.goto 7, 3) := by decide +kernel
theorem dX8_nextToken_237 : decode cX8_nextToken 237 = .ok (.lload_n 2, 1) := by decide +kernel
theorem dX8_nextToken_238 : decode cX8_nextToken 238 = .ok (.invokestatic 166, 3) := by decide +kernel
theorem dX8_nextToken_241 : decode cX8_nextToken 241 = .ok (.putfield 157, 3) := by decide +kernel
theorem dX8_nextToken_244 : decode cX8_nextToken 244 = .ok (.goto 18, 3) := by decide +kernel
theorem dX8_nextToken_247 : decode cX8_nextToken 247 = .ok (.aload_n 0, 1) := by decide +kernel
theorem dX8_nextToken_248 : decode cX8_nextToken 248 = .ok (.iconst 2, 1) := by decide +kernel
theorem dX8_nextToken_249 : decode cX8_nextToken 249 = .ok (.putfield 157, 3) := by decide +kernel
theorem dX8_nextToken_252 : decode cX8_nextToken 252 = .ok (.aload_n 0, 1) := by decide +kernel
theorem dX8_nextToken_253 : decode cX8_nextToken 253 = .ok (.dup, 1) := by decide +kernel
theorem dX8_nextToken_254 : decode cX8_nextToken 254 = .ok (.getfield 148, 3) := by decide +kernel
theorem dX8_nextToken_257 : decode cX8_nextToken 257 = .ok (.iconst 1, 1) := by decide +kernel
theorem dX8_nextToken_258 : decode cX8_nextToken 258 = .ok (.iadd, 1) := by decide +kernel
theorem dX8_nextToken_259 : decode cX8_nextToken 259 = .ok (.putfield 148, 3) := by decide +kernel
theorem dX8_nextToken_262 : decode cX8_nextToken 262 = .ok (.return_, 1) := by decide +kernel
theorem dX8_take_0 : decode cX8_take 0 = .ok (.aload_n 0, 1) := by decide +kernel
theorem dX8_take_1 : decode cX8_take 1 = .ok (.getfield 157, 3) := by decide +kernel
theorem dX8_take_4 : decode cX8_take 4 = .ok (.iconst 1, 1) := by decide +kernel
theorem dX8_take_5 : decode cX8_take 5 = .ok (.if_icmp .eq 5, 3) := by decide +kernel
theorem dX8_take_8 : decode cX8_take 8 = .ok (.iconst 1, 1) := by decide +kernel
theorem dX8_take_9 : decode cX8_take 9 = .ok (.ireturn, 1) := by decide +kernel
theorem dX8_take_10 : decode cX8_take 10 = .ok (.aload_n 0, 1) := by decide +kernel
theorem dX8_take_11 : decode cX8_take 11 = .ok (.getfield 163, 3) := by decide +kernel
theorem dX8_take_14 : decode cX8_take 14 = .ok (.iload_n 1, 1) := by decide +kernel
theorem dX8_take_15 : decode cX8_take 15 = .ok (.iload_n 2, 1) := by decide +kernel
theorem dX8_take_16 : decode cX8_take 16 = .ok (.invokestatic 70, 3) := by decide +kernel
theorem dX8_take_19 : decode cX8_take 19 = .ok (.ifCond .ne 5, 3) := by decide +kernel
theorem dX8_take_22 : decode cX8_take 22 = .ok (.iconst 2, 1) := by decide +kernel
theorem dX8_take_23 : decode cX8_take 23 = .ok (.ireturn, 1) := by decide +kernel
theorem dX8_take_24 : decode cX8_take 24 = .ok (.aload_n 0, 1) := by decide +kernel
theorem dX8_take_25 : decode cX8_take 25 = .ok (.invokevirtual 170, 3) := by decide +kernel
theorem dX8_take_28 : decode cX8_take 28 = .ok (.iconst 0, 1) := by decide +kernel
theorem dX8_take_29 : decode cX8_take 29 = .ok (.ireturn, 1) := by decide +kernel
theorem dX8_begin_0 : decode cX8_begin 0 = .ok (.aload_n 0, 1) := by decide +kernel
theorem dX8_begin_1 : decode cX8_begin 1 = .ok (.getfield 157, 3) := by decide +kernel
theorem dX8_begin_4 : decode cX8_begin 4 = .ok (.istore_n 1, 1) := by decide +kernel
theorem dX8_begin_5 : decode cX8_begin 5 = .ok (.iload_n 1, 1) := by decide +kernel
theorem dX8_begin_6 : decode cX8_begin 6 = .ok (.iconst 3, 1) := by decide +kernel
theorem dX8_begin_7 : decode cX8_begin 7 = .ok (.if_icmp .ge 5, 3) := by decide +kernel
theorem dX8_begin_10 : decode cX8_begin 10 = .ok (.iconst 1, 1) := by decide +kernel
theorem dX8_begin_11 : decode cX8_begin 11 = .ok (.ireturn, 1) := by decide +kernel
theorem dX8_begin_12 : decode cX8_begin 12 = .ok (.iload_n 1, 1) := by decide +kernel
theorem dX8_begin_13 : decode cX8_begin 13 = .ok (.iconst 4, 1) := by decide +kernel
theorem dX8_begin_14 : decode cX8_begin 14 = .ok (.if_icmp .le 14, 3) := by decide +kernel
theorem dX8_begin_17 : decode cX8_begin 17 = .ok (.aload_n 0, 1) := by decide +kernel
theorem dX8_begin_18 : decode cX8_begin 18 = .ok (.getfield 173, 3) := by decide +kernel
theorem dX8_begin_21 : decode cX8_begin 21 = .ok (.bipush 8, 2) := by decide +kernel
theorem dX8_begin_23 : decode cX8_begin 23 = .ok (.if_icmp .ne 5, 3) := by decide +kernel
theorem dX8_begin_26 : decode cX8_begin 26 = .ok (.iconst 3, 1) := by decide +kernel
theorem dX8_begin_27 : decode cX8_begin 27 = .ok (.ireturn, 1) := by decide +kernel
theorem dX8_begin_28 : decode cX8_begin 28 = .ok (.aload_n 0, 1) := by decide +kernel
theorem dX8_begin_29 : decode cX8_begin 29 = .ok (.getfield 154, 3) := by decide +kernel
theorem dX8_begin_32 : decode cX8_begin 32 = .ok (.istore_n 2, 1) := by decide +kernel
theorem dX8_begin_33 : decode cX8_begin 33 = .ok (.aload_n 0, 1) := by decide +kernel
theorem dX8_begin_34 : decode cX8_begin 34 = .ok (.invokevirtual 170, 3) := by decide +kernel
theorem dX8_begin_37 : decode cX8_begin 37 = .ok (.iload_n 1, 1) := by decide +kernel
theorem dX8_begin_38 : decode cX8_begin 38 = .ok (.iconst 3, 1) := by decide +kernel
theorem dX8_begin_39 : decode cX8_begin 39 = .ok (.if_icmp .ne 61, 3) := by decide +kernel
theorem dX8_begin_42 : decode cX8_begin 42 = .ok (.aload_n 0, 1) := by decide +kernel
theorem dX8_begin_43 : decode cX8_begin 43 = .ok (.getfield 163, 3) := by decide +kernel
theorem dX8_begin_46 : decode cX8_begin 46 = .ok (.istore_n 3, 1) := by decide +kernel
theorem dX8_begin_47 : decode cX8_begin 47 = .ok (.aload_n 0, 1) := by decide +kernel
theorem dX8_begin_48 : decode cX8_begin 48 = .ok (.iconst 1, 1) := by decide +kernel
theorem dX8_begin_49 : decode cX8_begin 49 = .ok (.bipush 8, 2) := by decide +kernel
theorem dX8_begin_51 : decode cX8_begin 51 = .ok (.invokevirtual 176, 3) := by decide +kernel
theorem dX8_begin_54 : decode cX8_begin 54 = .ok (.istore 4, 2) := by decide +kernel
theorem dX8_begin_56 : decode cX8_begin 56 = .ok (.aload_n 0, 1) := by decide +kernel
theorem dX8_begin_57 : decode cX8_begin 57 = .ok (.getfield 163, 3) := by decide +kernel
theorem dX8_begin_60 : decode cX8_begin 60 = .ok (.istore 5, 2) := by decide +kernel
theorem dX8_begin_62 : decode cX8_begin 62 = .ok (.iload 4, 2) := by decide +kernel
theorem dX8_begin_64 : decode cX8_begin 64 = .ok (.ifCond .ne 12, 3) := by decide +kernel
theorem dX8_begin_67 : decode cX8_begin 67 = .ok (.aload_n 0, 1) := by decide +kernel
theorem dX8_begin_68 : decode cX8_begin 68 = .ok (.iconst 1, 1) := by decide +kernel
theorem dX8_begin_69 : decode cX8_begin 69 = .ok (.bipush 8, 2) := by decide +kernel
theorem dX8_begin_71 : decode cX8_begin 71 = .ok (.invokevirtual 179, 3) := by decide +kernel
theorem dX8_begin_74 : decode cX8_begin 74 = .ok (.istore 4, 2) := by decide +kernel
theorem dX8_begin_76 : decode cX8_begin 76 = .ok (.iload 4, 2) := by decide +kernel
theorem dX8_begin_78 : decode cX8_begin 78 = .ok (.ifCond .eq 6, 3) := by decide +kernel
theorem dX8_begin_81 : decode cX8_begin 81 = .ok (.iload 4, 2) := by decide +kernel
theorem dX8_begin_83 : decode cX8_begin 83 = .ok (.ireturn, 1) := by decide +kernel
theorem dX8_begin_84 : decode cX8_begin 84 = .ok (.aload_n 0, 1) := by decide +kernel
theorem dX8_begin_85 : decode cX8_begin 85 = .ok (.bipush 18, 2) := by decide +kernel
theorem dX8_begin_87 : decode cX8_begin 87 = .ok (.iload_n 3, 1) := by decide +kernel
theorem dX8_begin_88 : decode cX8_begin 88 = .ok (.iload 5, 2) := by decide +kernel
theorem dX8_begin_90 : decode cX8_begin 90 = .ok (.invokevirtual 132, 3) := by decide +kernel
theorem dX8_begin_93 : decode cX8_begin 93 = .ok (.aload_n 0, 1) := by decide +kernel
theorem dX8_begin_94 : decode cX8_begin 94 = .ok (.iconst 1, 1) := by decide +kernel
theorem dX8_begin_95 : decode cX8_begin 95 = .ok (.putfield 182, 3) := by decide +kernel
theorem dX8_begin_98 : decode cX8_begin 98 = .ok (.iconst 0, 1) := by decide +kernel
theorem dX8_begin_99 : decode cX8_begin 99 = .ok (.ireturn, 1) := by decide +kernel
theorem dX8_begin_100 : decode cX8_begin 100 = .ok (.iload_n 1, 1) := by decide +kernel
theorem dX8_begin_101 : decode cX8_begin 101 = .ok (.iconst 4, 1) := by decide +kernel
theorem dX8_begin_102 : decode cX8_begin 102 = .ok (.if_icmp .ne 61, 3) := by decide +kernel
theorem dX8_begin_105 : decode cX8_begin 105 = .ok (.aload_n 0, 1) := by decide +kernel
theorem dX8_begin_106 : decode cX8_begin 106 = .ok (.getfield 157, 3) := by decide +kernel
theorem dX8_begin_109 : decode cX8_begin 109 = .ok (.iconst 1, 1) := by decide +kernel
theorem dX8_begin_110 : decode cX8_begin 110 = .ok (.if_icmp .eq 5, 3) := by decide +kernel
theorem dX8_begin_113 : decode cX8_begin 113 = .ok (.iconst 1, 1) := by decide +kernel
theorem dX8_begin_114 : decode cX8_begin 114 = .ok (.ireturn, 1) := by decide +kernel
theorem dX8_begin_115 : decode cX8_begin 115 = .ok (.aload_n 0, 1) := by decide +kernel
theorem dX8_begin_116 : decode cX8_begin 116 = .ok (.getfield 163, 3) := by decide +kernel
theorem dX8_begin_119 : decode cX8_begin 119 = .ok (.iconst 0, 1) := by decide +kernel
theorem dX8_begin_120 : decode cX8_begin 120 = .ok (.bipush 7, 2) := by decide +kernel
theorem dX8_begin_122 : decode cX8_begin 122 = .ok (.invokestatic 70, 3) := by decide +kernel
theorem dX8_begin_125 : decode cX8_begin 125 = .ok (.ifCond .eq 17, 3) := by decide +kernel
theorem dX8_begin_128 : decode cX8_begin 128 = .ok (.aload_n 0, 1) := by decide +kernel
theorem dX8_begin_129 : decode cX8_begin 129 = .ok (.getfield 7, 3) := by decide +kernel
theorem dX8_begin_132 : decode cX8_begin 132 = .ok (.iconst 1, 1) := by decide +kernel
theorem dX8_begin_133 : decode cX8_begin 133 = .ok (.aload_n 0, 1) := by decide +kernel
theorem dX8_begin_134 : decode cX8_begin 134 = .ok (.getfield 163, 3) := by decide +kernel
theorem dX8_begin_137 : decode cX8_begin 137 = .ok (.iadd, 1) := by decide +kernel
theorem dX8_begin_138 : decode cX8_begin 138 = .ok (.iaload, 1) := by decide +kernel
theorem dX8_begin_139 : decode cX8_begin 139 = .ok (.ifCond .ne 5, 3) := by decide +kernel
theorem dX8_begin_142 : decode cX8_begin 142 = .ok (.iconst 2, 1) := by decide +kernel
theorem dX8_begin_143 : decode cX8_begin 143 = .ok (.ireturn, 1) := by decide +kernel
theorem dX8_begin_144 : decode cX8_begin 144 = .ok (.aload_n 0, 1) := by decide +kernel
theorem dX8_begin_145 : decode cX8_begin 145 = .ok (.iconst 1, 1) := by decide +kernel
theorem dX8_begin_146 : decode cX8_begin 146 = .ok (.aload_n 0, 1) := by decide +kernel
theorem dX8_begin_147 : decode cX8_begin 147 = .ok (.getfield 163, 3) := by decide +kernel
theorem dX8_begin_150 : decode cX8_begin 150 = .ok (.iadd, 1) := by decide +kernel
theorem dX8_begin_151 : decode cX8_begin 151 = .ok (.bipush 18, 2) := by decide +kernel
theorem dX8_begin_153 : decode cX8_begin 153 = .ok (.invokevirtual 128, 3) := by decide +kernel
theorem dX8_begin_156 : decode cX8_begin 156 = .ok (.aload_n 0, 1) := by decide +kernel
theorem dX8_begin_157 : decode cX8_begin 157 = .ok (.iconst 1, 1) := by decide +kernel
theorem dX8_begin_158 : decode cX8_begin 158 = .ok (.putfield 182, 3) := by decide +kernel
theorem dX8_begin_161 : decode cX8_begin 161 = .ok (.iconst 0, 1) := by decide +kernel
theorem dX8_begin_162 : decode cX8_begin 162 = .ok (.ireturn, 1) := by decide +kernel
theorem dX8_begin_163 : decode cX8_begin 163 = .ok (.aload_n 0, 1) := by decide +kernel
theorem dX8_begin_164 : decode cX8_begin 164 = .ok (.getfield 52, 3) := by decide +kernel
theorem dX8_begin_167 : decode cX8_begin 167 = .ok (.aload_n 0, 1) := by decide +kernel
theorem dX8_begin_168 : decode cX8_begin 168 = .ok (.getfield 173, 3) := by decide +kernel
theorem dX8_begin_171 : decode cX8_begin 171 = .ok (.iload_n 1, 1) := by decide +kernel
theorem dX8_begin_172 : decode cX8_begin 172 = .ok (.iastore, 1) := by decide +kernel
theorem dX8_begin_173 : decode cX8_begin 173 = .ok (.aload_n 0, 1) := by decide +kernel
theorem dX8_begin_174 : decode cX8_begin 174 = .ok (.getfield 55, 3) := by decide +kernel
theorem dX8_begin_177 : decode cX8_begin 177 = .ok (.aload_n 0, 1) := by decide +kernel
theorem dX8_begin_178 : decode cX8_begin 178 = .ok (.getfield 173, 3) := by decide +kernel
theorem dX8_begin_181 : decode cX8_begin 181 = .ok (.iload_n 2, 1) := by decide +kernel
theorem dX8_begin_182 : decode cX8_begin 182 = .ok (.iastore, 1) := by decide +kernel
theorem dX8_begin_183 : decode cX8_begin 183 = .ok (.aload_n 0, 1) := by decide +kernel
theorem dX8_begin_184 : decode cX8_begin 184 = .ok (.getfield 61, 3) := by decide +kernel
theorem dX8_begin_187 : decode cX8_begin 187 = .ok (.aload_n 0, 1) := by decide +kernel
theorem dX8_begin_188 : decode cX8_begin 188 = .ok (.getfield 173, 3) := by decide +kernel
theorem dX8_begin_191 : decode cX8_begin 191 = .ok (.iconst 0, 1) := by decide +kernel
theorem dX8_begin_192 : decode cX8_begin 192 = .ok (.bastore, 1) := by decide +kernel
theorem dX8_begin_193 : decode cX8_begin 193 = .ok (.iload_n 1, 1) := by decide +kernel
theorem dX8_begin_194 : decode cX8_begin 194 = .ok (.iconst 5, 1) := by decide +kernel
theorem dX8_begin_195 : decode cX8_begin 195 = .ok (.if_icmp .ne 7, 3) := by decide +kernel
theorem dX8_begin_198 : decode cX8_begin 198 = .ok (.iconst 3, 1) := by decide +kernel
theorem dX8_begin_199 : decode cX8_begin 199 = .ok (.goto 14, 3) := by decide +kernel
theorem dX8_begin_202 : decode cX8_begin 202 = .ok (.iload_n 1, 1) := by decide +kernel
theorem dX8_begin_203 : decode cX8_begin 203 = .ok (.bipush 8, 2) := by decide +kernel
theorem dX8_begin_205 : decode cX8_begin 205 = .ok (.if_icmp .ne 7, 3) := by decide +kernel
theorem dX8_begin_208 : decode cX8_begin 208 = .ok (.iconst 1, 1) := by decide +kernel
theorem dX8_begin_209 : decode cX8_begin 209 = .ok (.goto 4, 3) := by decide +kernel
theorem dX8_begin_212 : decode cX8_begin 212 = .ok (.iconst 0, 1) := by decide +kernel
theorem dX8_begin_213 : decode cX8_begin 213 = .ok (.istore_n 3, 1) := by decide +kernel
theorem dX8_begin_214 : decode cX8_begin 214 = .ok (.iconst 0, 1) := by decide +kernel
theorem dX8_begin_215 : decode cX8_begin 215 = .ok (.istore 4, 2) := by decide +kernel
theorem dX8_begin_217 : decode cX8_begin 217 = .ok (.iload 4, 2) := by decide +kernel
theorem dX8_begin_219 : decode cX8_begin 219 = .ok (.iload_n 3, 1) := by decide +kernel
theorem dX8_begin_220 : decode cX8_begin 220 = .ok (.if_icmp .ge 75, 3) := by decide +kernel
theorem dX8_begin_223 : decode cX8_begin 223 = .ok (.aload_n 0, 1) := by decide +kernel
theorem dX8_begin_224 : decode cX8_begin 224 = .ok (.getfield 58, 3) := by decide +kernel
theorem dX8_begin_227 : decode cX8_begin 227 = .ok (.iconst 3, 1) := by decide +kernel
theorem dX8_begin_228 : decode cX8_begin 228 = .ok (.aload_n 0, 1) := by decide +kernel
theorem dX8_begin_229 : decode cX8_begin 229 = .ok (.getfield 173, 3) := by decide +kernel
theorem dX8_begin_232 : decode cX8_begin 232 = .ok (.imul, 1) := by decide +kernel
theorem dX8_begin_233 : decode cX8_begin 233 = .ok (.iload 4, 2) := by decide +kernel
theorem dX8_begin_235 : decode cX8_begin 235 = .ok (.iadd, 1) := by decide +kernel
theorem dX8_begin_236 : decode cX8_begin 236 = .ok (.aload_n 0, 1) := by decide +kernel
theorem dX8_begin_237 : decode cX8_begin 237 = .ok (.getfield 163, 3) := by decide +kernel
theorem dX8_begin_240 : decode cX8_begin 240 = .ok (.iastore, 1) := by decide +kernel
theorem dX8_begin_241 : decode cX8_begin 241 = .ok (.aload_n 0, 1) := by decide +kernel
theorem dX8_begin_242 : decode cX8_begin 242 = .ok (.iload_n 1, 1) := by decide +kernel
theorem dX8_begin_243 : decode cX8_begin 243 = .ok (.bipush 8, 2) := by decide +kernel
theorem dX8_begin_245 : decode cX8_begin 245 = .ok (.if_icmp .ne 7, 3) := by decide +kernel
theorem dX8_begin_248 : decode cX8_begin 248 = .ok (.iconst 1, 1) := by decide +kernel
theorem dX8_begin_249 : decode cX8_begin 249 = .ok (.goto 4, 3) := by decide +kernel
theorem dX8_begin_252 : decode cX8_begin 252 = .ok (.iconst 0, 1) := by decide +kernel
theorem dX8_begin_253 : decode cX8_begin 253 = .ok (.iload_n 1, 1) := by decide +kernel
theorem dX8_begin_254 : decode cX8_begin 254 = .ok (.bipush 8, 2) := by decide +kernel
theorem dX8_begin_256 : decode cX8_begin 256 = .ok (.if_icmp .ne 8, 3) := by decide +kernel
theorem dX8_begin_259 : decode cX8_begin 259 = .ok (.bipush 8, 2) := by decide +kernel
theorem dX8_begin_261 : decode cX8_begin 261 = .ok (.goto 15, 3) := by decide +kernel
theorem dX8_begin_264 : decode cX8_begin 264 = .ok (.iload 4, 2) := by decide +kernel
theorem dX8_begin_266 : decode cX8_begin 266 = .ok (.iconst 2, 1) := by decide +kernel
theorem dX8_begin_267 : decode cX8_begin 267 = .ok (.if_icmp .ge 8, 3) := by decide +kernel
theorem dX8_begin_270 : decode cX8_begin 270 = .ok (.bipush 16, 2) := by decide +kernel
theorem dX8_begin_272 : decode cX8_begin 272 = .ok (.goto 4, 3) := by decide +kernel
theorem dX8_begin_275 : decode cX8_begin 275 = .ok (.iconst 2, 1) := by decide +kernel
theorem dX8_begin_276 : decode cX8_begin 276 = .ok (.invokevirtual 176, 3) := by decide +kernel
theorem dX8_begin_279 : decode cX8_begin 279 = .ok (.istore 5, 2) := by decide +kernel
theorem dX8_begin_281 : decode cX8_begin 281 = .ok (.iload 5, 2) := by decide +kernel
theorem dX8_begin_283 : decode cX8_begin 283 = .ok (.ifCond .eq 6, 3) := by decide +kernel
theorem dX8_begin_286 : decode cX8_begin 286 = .ok (.iload 5, 2) := by decide +kernel
theorem dX8_begin_288 : decode cX8_begin 288 = .ok (.ireturn, 1) := by decide +kernel
theorem dX8_begin_289 : decode cX8_begin 289 = .ok (.iinc 4 1, 3) := by decide +kernel
theorem dX8_begin_292 : decode cX8_begin 292 = .ok (.goto (-75), 3) := by decide +kernel
theorem dX8_begin_295 : decode cX8_begin 295 = .ok (.aload_n 0, 1) := by decide +kernel
theorem dX8_begin_296 : decode cX8_begin 296 = .ok (.dup, 1) := by decide +kernel
theorem dX8_begin_297 : decode cX8_begin 297 = .ok (.getfield 173, 3) := by decide +kernel
theorem dX8_begin_300 : decode cX8_begin 300 = .ok (.iconst 1, 1) := by decide +kernel
theorem dX8_begin_301 : decode cX8_begin 301 = .ok (.iadd, 1) := by decide +kernel
theorem dX8_begin_302 : decode cX8_begin 302 = .ok (.putfield 173, 3) := by decide +kernel
theorem dX8_begin_305 : decode cX8_begin 305 = .ok (.iconst 0, 1) := by decide +kernel
theorem dX8_begin_306 : decode cX8_begin 306 = .ok (.ireturn, 1) := by decide +kernel
theorem dX8_takeLast_0 : decode cX8_takeLast 0 = .ok (.aload_n 0, 1) := by decide +kernel
theorem dX8_takeLast_1 : decode cX8_takeLast 1 = .ok (.getfield 157, 3) := by decide +kernel
theorem dX8_takeLast_4 : decode cX8_takeLast 4 = .ok (.iconst 1, 1) := by decide +kernel
theorem dX8_takeLast_5 : decode cX8_takeLast 5 = .ok (.if_icmp .eq 7, 3) := by decide +kernel
theorem dX8_takeLast_8 : decode cX8_takeLast 8 = .ok (.iconst 1, 1) := by decide +kernel
theorem dX8_takeLast_9 : decode cX8_takeLast 9 = .ok (.goto 20, 3) := by decide +kernel
theorem dX8_takeLast_12 : decode cX8_takeLast 12 = .ok (.aload_n 0, 1) := by decide +kernel
theorem dX8_takeLast_13 : decode cX8_takeLast 13 = .ok (.getfield 163, 3) := by decide +kernel
theorem dX8_takeLast_16 : decode cX8_takeLast 16 = .ok (.iload_n 1, 1) := by decide +kernel
theorem dX8_takeLast_17 : decode cX8_takeLast 17 = .ok (.iload_n 2, 1) := by decide +kernel
theorem dX8_takeLast_18 : decode cX8_takeLast 18 = .ok (.invokestatic 70, 3) := by decide +kernel
theorem dX8_takeLast_21 : decode cX8_takeLast 21 = .ok (.ifCond .eq 7, 3) := by decide +kernel
theorem dX8_takeLast_24 : decode cX8_takeLast 24 = .ok (.iconst 0, 1) := by decide +kernel
theorem dX8_takeLast_25 : decode cX8_takeLast 25 = .ok (.goto 4, 3) := by decide +kernel
theorem dX8_takeLast_28 : decode cX8_takeLast 28 = .ok (.iconst 2, 1) := by decide +kernel
theorem dX8_takeLast_29 : decode cX8_takeLast 29 = .ok (.ireturn, 1) := by decide +kernel
theorem dX8_close_0 : decode cX8_close 0 = .ok (.aload_n 0, 1) := by decide +kernel
theorem dX8_close_1 : decode cX8_close 1 = .ok (.getfield 182, 3) := by decide +kernel
theorem dX8_close_4 : decode cX8_close 4 = .ok (.ifCond .eq 98, 3) := by decide +kernel
theorem dX8_close_7 : decode cX8_close 7 = .ok (.aload_n 0, 1) := by decide +kernel
theorem dX8_close_8 : decode cX8_close 8 = .ok (.getfield 173, 3) := by decide +kernel
theorem dX8_close_11 : decode cX8_close 11 = .ok (.ifCond .le 91, 3) := by decide +kernel
theorem dX8_close_14 : decode cX8_close 14 = .ok (.aload_n 0, 1) := by decide +kernel
theorem dX8_close_15 : decode cX8_close 15 = .ok (.getfield 173, 3) := by decide +kernel
theorem dX8_close_18 : decode cX8_close 18 = .ok (.iconst 1, 1) := by decide +kernel
theorem dX8_close_19 : decode cX8_close 19 = .ok (.isub, 1) := by decide +kernel
theorem dX8_close_20 : decode cX8_close 20 = .ok (.istore_n 1, 1) := by decide +kernel
theorem dX8_close_21 : decode cX8_close 21 = .ok (.aload_n 0, 1) := by decide +kernel
theorem dX8_close_22 : decode cX8_close 22 = .ok (.getfield 52, 3) := by decide +kernel
theorem dX8_close_25 : decode cX8_close 25 = .ok (.iload_n 1, 1) := by decide +kernel
theorem dX8_close_26 : decode cX8_close 26 = .ok (.iaload, 1) := by decide +kernel
theorem dX8_close_27 : decode cX8_close 27 = .ok (.istore_n 2, 1) := by decide +kernel
theorem dX8_close_28 : decode cX8_close 28 = .ok (.iload_n 2, 1) := by decide +kernel
theorem dX8_close_29 : decode cX8_close 29 = .ok (.bipush 8, 2) := by decide +kernel
theorem dX8_close_31 : decode cX8_close 31 = .ok (.if_icmp .le 37, 3) := by decide +kernel
theorem dX8_close_34 : decode cX8_close 34 = .ok (.aload_n 0, 1) := by decide +kernel
theorem dX8_close_35 : decode cX8_close 35 = .ok (.getfield 61, 3) := by decide +kernel
theorem dX8_close_38 : decode cX8_close 38 = .ok (.iload_n 1, 1) := by decide +kernel
theorem dX8_close_39 : decode cX8_close 39 = .ok (.baload, 1) := by decide +kernel
theorem dX8_close_40 : decode cX8_close 40 = .ok (.ifCond .ne 28, 3) := by decide +kernel
theorem dX8_close_43 : decode cX8_close 43 = .ok (.aload_n 0, 1) := by decide +kernel
theorem dX8_close_44 : decode cX8_close 44 = .ok (.getfield 61, 3) := by decide +kernel
theorem dX8_close_47 : decode cX8_close 47 = .ok (.iload_n 1, 1) := by decide +kernel
theorem dX8_close_48 : decode cX8_close 48 = .ok (.iconst 1, 1) := by decide +kernel
theorem dX8_close_49 : decode cX8_close 49 = .ok (.bastore, 1) := by decide +kernel
theorem dX8_close_50 : decode cX8_close 50 = .ok (.aload_n 0, 1) := by decide +kernel
theorem dX8_close_51 : decode cX8_close 51 = .ok (.bipush 18, 2) := by decide +kernel
theorem dX8_close_53 : decode cX8_close 53 = .ok (.bipush 9, 2) := by decide +kernel
theorem dX8_close_55 : decode cX8_close 55 = .ok (.iload_n 1, 1) := by decide +kernel
theorem dX8_close_56 : decode cX8_close 56 = .ok (.iadd, 1) := by decide +kernel
theorem dX8_close_57 : decode cX8_close 57 = .ok (.invokevirtual 128, 3) := by decide +kernel
theorem dX8_close_60 : decode cX8_close 60 = .ok (.aload_n 0, 1) := by decide +kernel
theorem dX8_close_61 : decode cX8_close 61 = .ok (.iconst 0, 1) := by decide +kernel
theorem dX8_close_62 : decode cX8_close 62 = .ok (.putfield 182, 3) := by decide +kernel
theorem dX8_close_65 : decode cX8_close 65 = .ok (.goto 34, 3) := by decide +kernel
theorem dX8_close_68 : decode cX8_close 68 = .ok (.aload_n 0, 1) := by decide +kernel
theorem dX8_close_69 : decode cX8_close 69 = .ok (.dup, 1) := by decide +kernel
theorem dX8_close_70 : decode cX8_close 70 = .ok (.getfield 173, 3) := by decide +kernel
theorem dX8_close_73 : decode cX8_close 73 = .ok (.iconst 1, 1) := by decide +kernel
theorem dX8_close_74 : decode cX8_close 74 = .ok (.isub, 1) := by decide +kernel
theorem dX8_close_75 : decode cX8_close 75 = .ok (.putfield 173, 3) := by decide +kernel
theorem dX8_close_78 : decode cX8_close 78 = .ok (.aload_n 0, 1) := by decide +kernel
theorem dX8_close_79 : decode cX8_close 79 = .ok (.iload_n 1, 1) := by decide +kernel
theorem dX8_close_80 : decode cX8_close 80 = .ok (.iload_n 2, 1) := by decide +kernel
theorem dX8_close_81 : decode cX8_close 81 = .ok (.invokevirtual 186, 3) := by decide +kernel
theorem dX8_close_84 : decode cX8_close 84 = .ok (.ifCond .ne 15, 3) := by decide +kernel
theorem dX8_close_87 : decode cX8_close 87 = .ok (.aload_n 0, 1) := by decide +kernel
theorem dX8_close_88 : decode cX8_close 88 = .ok (.aload_n 0, 1) := by decide +kernel
theorem dX8_close_89 : decode cX8_close 89 = .ok (.getfield 55, 3) := by decide +kernel
theorem dX8_close_92 : decode cX8_close 92 = .ok (.iload_n 1, 1) := by decide +kernel
theorem dX8_close_93 : decode cX8_close 93 = .ok (.iaload, 1) := by decide +kernel
theorem dX8_close_94 : decode cX8_close 94 = .ok (.putfield 154, 3) := by decide +kernel
theorem dX8_close_97 : decode cX8_close 97 = .ok (.iconst 4, 1) := by decide +kernel
theorem dX8_close_98 : decode cX8_close 98 = .ok (.ireturn, 1) := by decide +kernel
theorem dX8_close_99 : decode cX8_close 99 = .ok (.goto (-99), 3) := by decide +kernel
theorem dX8_close_102 : decode cX8_close 102 = .ok (.iconst 0, 1) := by decide +kernel
theorem dX8_close_103 : decode cX8_close 103 = .ok (.ireturn, 1) := by decide +kernel
theorem dX8_isDone_0 : decode cX8_isDone 0 = .ok (.iload_n 2, 1) := by decide +kernel
theorem dX8_isDone_1 : decode cX8_isDone 1 = .ok (.iconst 5, 1) := by decide +kernel
theorem dX8_isDone_2 : decode cX8_isDone 2 = .ok (.if_icmp .ne 64, 3) := by decide +kernel
theorem dX8_isDone_5 : decode cX8_isDone 5 = .ok (.aload_n 0, 1) := by decide +kernel
theorem dX8_isDone_6 : decode cX8_isDone 6 = .ok (.getfield 58, 3) := by decide +kernel
theorem dX8_isDone_9 : decode cX8_isDone 9 = .ok (.iconst 3, 1) := by decide +kernel
theorem dX8_isDone_10 : decode cX8_isDone 10 = .ok (.iload_n 1, 1) := by decide +kernel
theorem dX8_isDone_11 : decode cX8_isDone 11 = .ok (.imul, 1) := by decide +kernel
theorem dX8_isDone_12 : decode cX8_isDone 12 = .ok (.iaload, 1) := by decide +kernel
theorem dX8_isDone_13 : decode cX8_isDone 13 = .ok (.istore_n 3, 1) := by decide +kernel
theorem dX8_isDone_14 : decode cX8_isDone 14 = .ok (.aload_n 0, 1) := by decide +kernel
theorem dX8_isDone_15 : decode cX8_isDone 15 = .ok (.getfield 58, 3) := by decide +kernel
theorem dX8_isDone_18 : decode cX8_isDone 18 = .ok (.iconst 3, 1) := by decide +kernel
theorem dX8_isDone_19 : decode cX8_isDone 19 = .ok (.iload_n 1, 1) := by decide +kernel
theorem dX8_isDone_20 : decode cX8_isDone 20 = .ok (.imul, 1) := by decide +kernel
theorem dX8_isDone_21 : decode cX8_isDone 21 = .ok (.iconst 1, 1) := by decide +kernel
theorem dX8_isDone_22 : decode cX8_isDone 22 = .ok (.iadd, 1) := by decide +kernel
theorem dX8_isDone_23 : decode cX8_isDone 23 = .ok (.iaload, 1) := by decide +kernel
theorem dX8_isDone_24 : decode cX8_isDone 24 = .ok (.istore 4, 2) := by decide +kernel
theorem dX8_isDone_26 : decode cX8_isDone 26 = .ok (.aload_n 0, 1) := by decide +kernel
theorem dX8_isDone_27 : decode cX8_isDone 27 = .ok (.bipush 18, 2) := by decide +kernel
theorem dX8_isDone_29 : decode cX8_isDone 29 = .ok (.iload_n 3, 1) := by decide +kernel
theorem dX8_isDone_30 : decode cX8_isDone 30 = .ok (.iload 4, 2) := by decide +kernel
theorem dX8_isDone_32 : decode cX8_isDone 32 = .ok (.invokevirtual 74, 3) := by decide +kernel
theorem dX8_isDone_35 : decode cX8_isDone 35 = .ok (.ifCond .ne 5, 3) := by decide +kernel
theorem dX8_isDone_38 : decode cX8_isDone 38 = .ok (.iconst 0, 1) := by decide +kernel
theorem dX8_isDone_39 : decode cX8_isDone 39 = .ok (.ireturn, 1) := by decide +kernel
theorem dX8_isDone_40 : decode cX8_isDone 40 = .ok (.aload_n 0, 1) := by decide +kernel
theorem dX8_isDone_41 : decode cX8_isDone 41 = .ok (.getfield 16, 3) := by decide +kernel
theorem dX8_isDone_44 : decode cX8_isDone 44 = .ok (.bipush 18, 2) := by decide +kernel
theorem dX8_isDone_46 : decode cX8_isDone 46 = .ok (.iload_n 3, 1) := by decide +kernel
theorem dX8_isDone_47 : decode cX8_isDone 47 = .ok (.iload 4, 2) := by decide +kernel
theorem dX8_isDone_49 : decode cX8_isDone 49 = .ok (.invokestatic 77, 3) := by decide +kernel
theorem dX8_isDone_52 : decode cX8_isDone 52 = .ok (.aload_n 0, 1) := by decide +kernel
theorem dX8_isDone_53 : decode cX8_isDone 53 = .ok (.getfield 58, 3) := by decide +kernel
theorem dX8_isDone_56 : decode cX8_isDone 56 = .ok (.iconst 3, 1) := by decide +kernel
theorem dX8_isDone_57 : decode cX8_isDone 57 = .ok (.iload_n 1, 1) := by decide +kernel
theorem dX8_isDone_58 : decode cX8_isDone 58 = .ok (.imul, 1) := by decide +kernel
theorem dX8_isDone_59 : decode cX8_isDone 59 = .ok (.iconst 2, 1) := by decide +kernel
theorem dX8_isDone_60 : decode cX8_isDone 60 = .ok (.iadd, 1) := by decide +kernel
theorem dX8_isDone_61 : decode cX8_isDone 61 = .ok (.iaload, 1) := by decide +kernel
theorem dX8_isDone_62 : decode cX8_isDone 62 = .ok (.i2b, 1) := by decide +kernel
theorem dX8_isDone_63 : decode cX8_isDone 63 = .ok (.bastore, 1) := by decide +kernel
theorem dX8_isDone_64 : decode cX8_isDone 64 = .ok (.iconst 1, 1) := by decide +kernel
theorem dX8_isDone_65 : decode cX8_isDone 65 = .ok (.ireturn, 1) := by decide +kernel
theorem dX8_isDone_66 : decode cX8_isDone 66 = .ok (.iload_n 2, 1) := by decide +kernel
theorem dX8_isDone_67 : decode cX8_isDone 67 = .ok (.bipush 6, 2) := by decide +kernel
theorem dX8_isDone_69 : decode cX8_isDone 69 = .ok (.if_icmp .ne 9, 3) := by decide +kernel
theorem dX8_isDone_72 : decode cX8_isDone 72 = .ok (.aload_n 0, 1) := by decide +kernel
theorem dX8_isDone_73 : decode cX8_isDone 73 = .ok (.bipush 18, 2) := by decide +kernel
theorem dX8_isDone_75 : decode cX8_isDone 75 = .ok (.invokevirtual 190, 3) := by decide +kernel
theorem dX8_isDone_78 : decode cX8_isDone 78 = .ok (.iload_n 2, 1) := by decide +kernel
theorem dX8_isDone_79 : decode cX8_isDone 79 = .ok (.bipush 7, 2) := by decide +kernel
theorem dX8_isDone_81 : decode cX8_isDone 81 = .ok (.if_icmp .ne 9, 3) := by decide +kernel
theorem dX8_isDone_84 : decode cX8_isDone 84 = .ok (.aload_n 0, 1) := by decide +kernel
theorem dX8_isDone_85 : decode cX8_isDone 85 = .ok (.bipush 18, 2) := by decide +kernel
theorem dX8_isDone_87 : decode cX8_isDone 87 = .ok (.invokevirtual 193, 3) := by decide +kernel
theorem dX8_isDone_90 : decode cX8_isDone 90 = .ok (.iload_n 2, 1) := by decide +kernel
theorem dX8_isDone_91 : decode cX8_isDone 91 = .ok (.bipush 8, 2) := by decide +kernel
theorem dX8_isDone_93 : decode cX8_isDone 93 = .ok (.if_icmp .ne 16, 3) := by decide +kernel
theorem dX8_isDone_96 : decode cX8_isDone 96 = .ok (.aload_n 0, 1) := by decide +kernel
theorem dX8_isDone_97 : decode cX8_isDone 97 = .ok (.aload_n 0, 1) := by decide +kernel
theorem dX8_isDone_98 : decode cX8_isDone 98 = .ok (.getfield 58, 3) := by decide +kernel
theorem dX8_isDone_101 : decode cX8_isDone 101 = .ok (.iconst 3, 1) := by decide +kernel
theorem dX8_isDone_102 : decode cX8_isDone 102 = .ok (.iload_n 1, 1) := by decide +kernel
theorem dX8_isDone_103 : decode cX8_isDone 103 = .ok (.imul, 1) := by decide +kernel
theorem dX8_isDone_104 : decode cX8_isDone 104 = .ok (.iaload, 1) := by decide +kernel
theorem dX8_isDone_105 : decode cX8_isDone 105 = .ok (.invokevirtual 196, 3) := by decide +kernel
theorem dX8_isDone_108 : decode cX8_isDone 108 = .ok (.ireturn, 1) := by decide +kernel
theorem dX8_isDone_109 : decode cX8_isDone 109 = .ok (.iload_n 2, 1) := by decide +kernel
theorem dX8_isDone_110 : decode cX8_isDone 110 = .ok (.bipush 9, 2) := by decide +kernel
theorem dX8_isDone_112 : decode cX8_isDone 112 = .ok (.if_icmp .lt 12, 3) := by decide +kernel
theorem dX8_isDone_115 : decode cX8_isDone 115 = .ok (.aload_n 0, 1) := by decide +kernel
theorem dX8_isDone_116 : decode cX8_isDone 116 = .ok (.iload_n 1, 1) := by decide +kernel
theorem dX8_isDone_117 : decode cX8_isDone 117 = .ok (.iload_n 2, 1) := by decide +kernel
theorem dX8_isDone_118 : decode cX8_isDone 118 = .ok (.invokevirtual 199, 3) := by decide +kernel
theorem dX8_isDone_121 : decode cX8_isDone 121 = .ok (.ifCond .eq 7, 3) := by decide +kernel
theorem dX8_isDone_124 : decode cX8_isDone 124 = .ok (.iconst 1, 1) := by decide +kernel
theorem dX8_isDone_125 : decode cX8_isDone 125 = .ok (.goto 4, 3) := by decide +kernel
theorem dX8_isDone_128 : decode cX8_isDone 128 = .ok (.iconst 0, 1) := by decide +kernel
theorem dX8_isDone_129 : decode cX8_isDone 129 = .ok (.ireturn, 1) := by decide +kernel
theorem dX8_isRow_0 : decode cX8_isRow 0 = .ok (.aload_n 0, 1) := by decide +kernel
theorem dX8_isRow_1 : decode cX8_isRow 1 = .ok (.getfield 7, 3) := by decide +kernel
theorem dX8_isRow_4 : decode cX8_isRow 4 = .ok (.bipush 18, 2) := by decide +kernel
theorem dX8_isRow_6 : decode cX8_isRow 6 = .ok (.iaload, 1) := by decide +kernel
theorem dX8_isRow_7 : decode cX8_isRow 7 = .ok (.iload_n 1, 1) := by decide +kernel
theorem dX8_isRow_8 : decode cX8_isRow 8 = .ok (.imul, 1) := by decide +kernel
theorem dX8_isRow_9 : decode cX8_isRow 9 = .ok (.bipush 8, 2) := by decide +kernel
theorem dX8_isRow_11 : decode cX8_isRow 11 = .ok (.if_icmp .le 5, 3) := by decide +kernel
theorem dX8_isRow_14 : decode cX8_isRow 14 = .ok (.iconst 0, 1) := by decide +kernel
theorem dX8_isRow_15 : decode cX8_isRow 15 = .ok (.ireturn, 1) := by decide +kernel
theorem dX8_isRow_16 : decode cX8_isRow 16 = .ok (.aload_n 0, 1) := by decide +kernel
theorem dX8_isRow_17 : decode cX8_isRow 17 = .ok (.bipush 18, 2) := by decide +kernel
theorem dX8_isRow_19 : decode cX8_isRow 19 = .ok (.bipush 19, 2) := by decide +kernel
theorem dX8_isRow_21 : decode cX8_isRow 21 = .ok (.invokevirtual 128, 3) := by decide +kernel
theorem dX8_isRow_24 : decode cX8_isRow 24 = .ok (.aload_n 0, 1) := by decide +kernel
theorem dX8_isRow_25 : decode cX8_isRow 25 = .ok (.bipush 18, 2) := by decide +kernel
theorem dX8_isRow_27 : decode cX8_isRow 27 = .ok (.aload_n 0, 1) := by decide +kernel
theorem dX8_isRow_28 : decode cX8_isRow 28 = .ok (.getfield 7, 3) := by decide +kernel
theorem dX8_isRow_31 : decode cX8_isRow 31 = .ok (.bipush 19, 2) := by decide +kernel
theorem dX8_isRow_33 : decode cX8_isRow 33 = .ok (.iaload, 1) := by decide +kernel
theorem dX8_isRow_34 : decode cX8_isRow 34 = .ok (.iload_n 1, 1) := by decide +kernel
theorem dX8_isRow_35 : decode cX8_isRow 35 = .ok (.imul, 1) := by decide +kernel
theorem dX8_isRow_36 : decode cX8_isRow 36 = .ok (.aload_n 0, 1) := by decide +kernel
theorem dX8_isRow_37 : decode cX8_isRow 37 = .ok (.getfield 13, 3) := by decide +kernel
theorem dX8_isRow_40 : decode cX8_isRow 40 = .ok (.bipush 19, 2) := by decide +kernel
theorem dX8_isRow_42 : decode cX8_isRow 42 = .ok (.iaload, 1) := by decide +kernel
theorem dX8_isRow_43 : decode cX8_isRow 43 = .ok (.invokevirtual 132, 3) := by decide +kernel
theorem dX8_isRow_46 : decode cX8_isRow 46 = .ok (.iconst 0, 1) := by decide +kernel
theorem dX8_isRow_47 : decode cX8_isRow 47 = .ok (.istore_n 2, 1) := by decide +kernel
theorem dX8_isRow_48 : decode cX8_isRow 48 = .ok (.iload_n 2, 1) := by decide +kernel
theorem dX8_isRow_49 : decode cX8_isRow 49 = .ok (.iload_n 1, 1) := by decide +kernel
theorem dX8_isRow_50 : decode cX8_isRow 50 = .ok (.if_icmp .ge 29, 3) := by decide +kernel
theorem dX8_isRow_53 : decode cX8_isRow 53 = .ok (.aload_n 0, 1) := by decide +kernel
theorem dX8_isRow_54 : decode cX8_isRow 54 = .ok (.bipush 19, 2) := by decide +kernel
theorem dX8_isRow_56 : decode cX8_isRow 56 = .ok (.bipush 18, 2) := by decide +kernel
theorem dX8_isRow_58 : decode cX8_isRow 58 = .ok (.iconst 2, 1) := by decide +kernel
theorem dX8_isRow_59 : decode cX8_isRow 59 = .ok (.iload_n 2, 1) := by decide +kernel
theorem dX8_isRow_60 : decode cX8_isRow 60 = .ok (.imul, 1) := by decide +kernel
theorem dX8_isRow_61 : decode cX8_isRow 61 = .ok (.aload_n 0, 1) := by decide +kernel
theorem dX8_isRow_62 : decode cX8_isRow 62 = .ok (.getfield 7, 3) := by decide +kernel
theorem dX8_isRow_65 : decode cX8_isRow 65 = .ok (.bipush 19, 2) := by decide +kernel
theorem dX8_isRow_67 : decode cX8_isRow 67 = .ok (.iaload, 1) := by decide +kernel
theorem dX8_isRow_68 : decode cX8_isRow 68 = .ok (.imul, 1) := by decide +kernel
theorem dX8_isRow_69 : decode cX8_isRow 69 = .ok (.iconst 0, 1) := by decide +kernel
theorem dX8_isRow_70 : decode cX8_isRow 70 = .ok (.invokevirtual 202, 3) := by decide +kernel
theorem dX8_isRow_73 : decode cX8_isRow 73 = .ok (.iinc 2 1, 3) := by decide +kernel
theorem dX8_isRow_76 : decode cX8_isRow 76 = .ok (.goto (-28), 3) := by decide +kernel
theorem dX8_isRow_79 : decode cX8_isRow 79 = .ok (.iconst 1, 1) := by decide +kernel
theorem dX8_isRow_80 : decode cX8_isRow 80 = .ok (.ireturn, 1) := by decide +kernel
theorem dX8_isPut_0 : decode cX8_isPut 0 = .ok (.bipush 9, 2) := by decide +kernel
theorem dX8_isPut_2 : decode cX8_isPut 2 = .ok (.iload_n 1, 1) := by decide +kernel
theorem dX8_isPut_3 : decode cX8_isPut 3 = .ok (.iadd, 1) := by decide +kernel
theorem dX8_isPut_4 : decode cX8_isPut 4 = .ok (.istore_n 3, 1) := by decide +kernel
theorem dX8_isPut_5 : decode cX8_isPut 5 = .ok (.aload_n 0, 1) := by decide +kernel
theorem dX8_isPut_6 : decode cX8_isPut 6 = .ok (.getfield 13, 3) := by decide +kernel
theorem dX8_isPut_9 : decode cX8_isPut 9 = .ok (.iload_n 3, 1) := by decide +kernel
theorem dX8_isPut_10 : decode cX8_isPut 10 = .ok (.iaload, 1) := by decide +kernel
theorem dX8_isPut_11 : decode cX8_isPut 11 = .ok (.aload_n 0, 1) := by decide +kernel
theorem dX8_isPut_12 : decode cX8_isPut 12 = .ok (.getfield 13, 3) := by decide +kernel
theorem dX8_isPut_15 : decode cX8_isPut 15 = .ok (.bipush 18, 2) := by decide +kernel
theorem dX8_isPut_17 : decode cX8_isPut 17 = .ok (.iaload, 1) := by decide +kernel
theorem dX8_isPut_18 : decode cX8_isPut 18 = .ok (.if_icmp .ne 7, 3) := by decide +kernel
theorem dX8_isPut_21 : decode cX8_isPut 21 = .ok (.iconst 1, 1) := by decide +kernel
theorem dX8_isPut_22 : decode cX8_isPut 22 = .ok (.goto 4, 3) := by decide +kernel
theorem dX8_isPut_25 : decode cX8_isPut 25 = .ok (.iconst 0, 1) := by decide +kernel
theorem dX8_isPut_26 : decode cX8_isPut 26 = .ok (.istore 4, 2) := by decide +kernel
theorem dX8_isPut_28 : decode cX8_isPut 28 = .ok (.aload_n 0, 1) := by decide +kernel
theorem dX8_isPut_29 : decode cX8_isPut 29 = .ok (.getfield 7, 3) := by decide +kernel
theorem dX8_isPut_32 : decode cX8_isPut 32 = .ok (.iload_n 3, 1) := by decide +kernel
theorem dX8_isPut_33 : decode cX8_isPut 33 = .ok (.iaload, 1) := by decide +kernel
theorem dX8_isPut_34 : decode cX8_isPut 34 = .ok (.aload_n 0, 1) := by decide +kernel
theorem dX8_isPut_35 : decode cX8_isPut 35 = .ok (.getfield 7, 3) := by decide +kernel
theorem dX8_isPut_38 : decode cX8_isPut 38 = .ok (.bipush 18, 2) := by decide +kernel
theorem dX8_isPut_40 : decode cX8_isPut 40 = .ok (.iaload, 1) := by decide +kernel
theorem dX8_isPut_41 : decode cX8_isPut 41 = .ok (.if_icmp .ne 7, 3) := by decide +kernel
theorem dX8_isPut_44 : decode cX8_isPut 44 = .ok (.iconst 1, 1) := by decide +kernel
theorem dX8_isPut_45 : decode cX8_isPut 45 = .ok (.goto 4, 3) := by decide +kernel
theorem dX8_isPut_48 : decode cX8_isPut 48 = .ok (.iconst 0, 1) := by decide +kernel
theorem dX8_isPut_49 : decode cX8_isPut 49 = .ok (.istore 5, 2) := by decide +kernel
theorem dX8_isPut_51 : decode cX8_isPut 51 = .ok (.iload_n 2, 1) := by decide +kernel
theorem dX8_isPut_52 : decode cX8_isPut 52 = .ok (.bipush 9, 2) := by decide +kernel
theorem dX8_isPut_54 : decode cX8_isPut 54 = .ok (.if_icmp .ne 30, 3) := by decide +kernel
theorem dX8_isPut_57 : decode cX8_isPut 57 = .ok (.iload 4, 2) := by decide +kernel
theorem dX8_isPut_59 : decode cX8_isPut 59 = .ok (.ifCond .eq 68, 3) := by decide +kernel
theorem dX8_isPut_62 : decode cX8_isPut 62 = .ok (.aload_n 0, 1) := by decide +kernel
theorem dX8_isPut_63 : decode cX8_isPut 63 = .ok (.getfield 7, 3) := by decide +kernel
theorem dX8_isPut_66 : decode cX8_isPut 66 = .ok (.iload_n 3, 1) := by decide +kernel
theorem dX8_isPut_67 : decode cX8_isPut 67 = .ok (.iaload, 1) := by decide +kernel
theorem dX8_isPut_68 : decode cX8_isPut 68 = .ok (.aload_n 0, 1) := by decide +kernel
theorem dX8_isPut_69 : decode cX8_isPut 69 = .ok (.getfield 7, 3) := by decide +kernel
theorem dX8_isPut_72 : decode cX8_isPut 72 = .ok (.bipush 18, 2) := by decide +kernel
theorem dX8_isPut_74 : decode cX8_isPut 74 = .ok (.iaload, 1) := by decide +kernel
theorem dX8_isPut_75 : decode cX8_isPut 75 = .ok (.iadd, 1) := by decide +kernel
theorem dX8_isPut_76 : decode cX8_isPut 76 = .ok (.bipush 8, 2) := by decide +kernel
theorem dX8_isPut_78 : decode cX8_isPut 78 = .ok (.if_icmp .le 51, 3) := by decide +kernel
theorem dX8_isPut_81 : decode cX8_isPut 81 = .ok (.goto 46, 3) := by decide +kernel
theorem dX8_isPut_84 : decode cX8_isPut 84 = .ok (.iload_n 2, 1) := by decide +kernel
theorem dX8_isPut_85 : decode cX8_isPut 85 = .ok (.bipush 10, 2) := by decide +kernel
theorem dX8_isPut_87 : decode cX8_isPut 87 = .ok (.if_icmp .ne 30, 3) := by decide +kernel
theorem dX8_isPut_90 : decode cX8_isPut 90 = .ok (.iload 5, 2) := by decide +kernel
theorem dX8_isPut_92 : decode cX8_isPut 92 = .ok (.ifCond .eq 35, 3) := by decide +kernel
theorem dX8_isPut_95 : decode cX8_isPut 95 = .ok (.aload_n 0, 1) := by decide +kernel
theorem dX8_isPut_96 : decode cX8_isPut 96 = .ok (.getfield 13, 3) := by decide +kernel
theorem dX8_isPut_99 : decode cX8_isPut 99 = .ok (.iload_n 3, 1) := by decide +kernel
theorem dX8_isPut_100 : decode cX8_isPut 100 = .ok (.iaload, 1) := by decide +kernel
theorem dX8_isPut_101 : decode cX8_isPut 101 = .ok (.aload_n 0, 1) := by decide +kernel
theorem dX8_isPut_102 : decode cX8_isPut 102 = .ok (.getfield 13, 3) := by decide +kernel
theorem dX8_isPut_105 : decode cX8_isPut 105 = .ok (.bipush 18, 2) := by decide +kernel
theorem dX8_isPut_107 : decode cX8_isPut 107 = .ok (.iaload, 1) := by decide +kernel
theorem dX8_isPut_108 : decode cX8_isPut 108 = .ok (.iadd, 1) := by decide +kernel
theorem dX8_isPut_109 : decode cX8_isPut 109 = .ok (.bipush 8, 2) := by decide +kernel
theorem dX8_isPut_111 : decode cX8_isPut 111 = .ok (.if_icmp .le 18, 3) := by decide +kernel
theorem dX8_isPut_114 : decode cX8_isPut 114 = .ok (.goto 13, 3) := by decide +kernel
theorem dX8_isPut_117 : decode cX8_isPut 117 = .ok (.iload 4, 2) := by decide +kernel
theorem dX8_isPut_119 : decode cX8_isPut 119 = .ok (.ifCond .eq 8, 3) := by decide +kernel
theorem dX8_isPut_122 : decode cX8_isPut 122 = .ok (.iload 5, 2) := by decide +kernel
theorem dX8_isPut_124 : decode cX8_isPut 124 = .ok (.ifCond .ne 5, 3) := by decide +kernel
theorem dX8_isPut_127 : decode cX8_isPut 127 = .ok (.iconst 0, 1) := by decide +kernel
theorem dX8_isPut_128 : decode cX8_isPut 128 = .ok (.ireturn, 1) := by decide +kernel
theorem dX8_isPut_129 : decode cX8_isPut 129 = .ok (.aload_n 0, 1) := by decide +kernel
theorem dX8_isPut_130 : decode cX8_isPut 130 = .ok (.bipush 18, 2) := by decide +kernel
theorem dX8_isPut_132 : decode cX8_isPut 132 = .ok (.bipush 19, 2) := by decide +kernel
theorem dX8_isPut_134 : decode cX8_isPut 134 = .ok (.invokevirtual 128, 3) := by decide +kernel
theorem dX8_isPut_137 : decode cX8_isPut 137 = .ok (.aload_n 0, 1) := by decide +kernel
theorem dX8_isPut_138 : decode cX8_isPut 138 = .ok (.bipush 18, 2) := by decide +kernel
theorem dX8_isPut_140 : decode cX8_isPut 140 = .ok (.iload_n 2, 1) := by decide +kernel
theorem dX8_isPut_141 : decode cX8_isPut 141 = .ok (.bipush 9, 2) := by decide +kernel
theorem dX8_isPut_143 : decode cX8_isPut 143 = .ok (.if_icmp .ne 20, 3) := by decide +kernel
theorem dX8_isPut_146 : decode cX8_isPut 146 = .ok (.aload_n 0, 1) := by decide +kernel
theorem dX8_isPut_147 : decode cX8_isPut 147 = .ok (.getfield 7, 3) := by decide +kernel
theorem dX8_isPut_150 : decode cX8_isPut 150 = .ok (.iload_n 3, 1) := by decide +kernel
theorem dX8_isPut_151 : decode cX8_isPut 151 = .ok (.iaload, 1) := by decide +kernel
theorem dX8_isPut_152 : decode cX8_isPut 152 = .ok (.aload_n 0, 1) := by decide +kernel
theorem dX8_isPut_153 : decode cX8_isPut 153 = .ok (.getfield 7, 3) := by decide +kernel
theorem dX8_isPut_156 : decode cX8_isPut 156 = .ok (.bipush 19, 2) := by decide +kernel
theorem dX8_isPut_158 : decode cX8_isPut 158 = .ok (.iaload, 1) := by decide +kernel
theorem dX8_isPut_159 : decode cX8_isPut 159 = .ok (.iadd, 1) := by decide +kernel
theorem dX8_isPut_160 : decode cX8_isPut 160 = .ok (.goto 9, 3) := by decide +kernel
theorem dX8_isPut_163 : decode cX8_isPut 163 = .ok (.aload_n 0, 1) := by decide +kernel
theorem dX8_isPut_164 : decode cX8_isPut 164 = .ok (.getfield 7, 3) := by decide +kernel
theorem dX8_isPut_167 : decode cX8_isPut 167 = .ok (.iload_n 3, 1) := by decide +kernel
theorem dX8_isPut_168 : decode cX8_isPut 168 = .ok (.iaload, 1) := by decide +kernel
theorem dX8_isPut_169 : decode cX8_isPut 169 = .ok (.iload_n 2, 1) := by decide +kernel
theorem dX8_isPut_170 : decode cX8_isPut 170 = .ok (.bipush 10, 2) := by decide +kernel
theorem dX8_isPut_172 : decode cX8_isPut 172 = .ok (.if_icmp .ne 20, 3) := by decide +kernel
theorem dX8_isPut_175 : decode cX8_isPut 175 = .ok (.aload_n 0, 1) := by decide +kernel
theorem dX8_isPut_176 : decode cX8_isPut 176 = .ok (.getfield 13, 3) := by decide +kernel
theorem dX8_isPut_179 : decode cX8_isPut 179 = .ok (.iload_n 3, 1) := by decide +kernel
theorem dX8_isPut_180 : decode cX8_isPut 180 = .ok (.iaload, 1) := by decide +kernel
theorem dX8_isPut_181 : decode cX8_isPut 181 = .ok (.aload_n 0, 1) := by decide +kernel
theorem dX8_isPut_182 : decode cX8_isPut 182 = .ok (.getfield 13, 3) := by decide +kernel
theorem dX8_isPut_185 : decode cX8_isPut 185 = .ok (.bipush 19, 2) := by decide +kernel
theorem dX8_isPut_187 : decode cX8_isPut 187 = .ok (.iaload, 1) := by decide +kernel
theorem dX8_isPut_188 : decode cX8_isPut 188 = .ok (.iadd, 1) := by decide +kernel
theorem dX8_isPut_189 : decode cX8_isPut 189 = .ok (.goto 9, 3) := by decide +kernel
theorem dX8_isPut_192 : decode cX8_isPut 192 = .ok (.aload_n 0, 1) := by decide +kernel
theorem dX8_isPut_193 : decode cX8_isPut 193 = .ok (.getfield 13, 3) := by decide +kernel
theorem dX8_isPut_196 : decode cX8_isPut 196 = .ok (.iload_n 3, 1) := by decide +kernel
theorem dX8_isPut_197 : decode cX8_isPut 197 = .ok (.iaload, 1) := by decide +kernel
theorem dX8_isPut_198 : decode cX8_isPut 198 = .ok (.invokevirtual 132, 3) := by decide +kernel
theorem dX8_isPut_201 : decode cX8_isPut 201 = .ok (.aload_n 0, 1) := by decide +kernel
theorem dX8_isPut_202 : decode cX8_isPut 202 = .ok (.iload_n 3, 1) := by decide +kernel
theorem dX8_isPut_203 : decode cX8_isPut 203 = .ok (.bipush 18, 2) := by decide +kernel
theorem dX8_isPut_205 : decode cX8_isPut 205 = .ok (.iconst 0, 1) := by decide +kernel
theorem dX8_isPut_206 : decode cX8_isPut 206 = .ok (.iconst 0, 1) := by decide +kernel
theorem dX8_isPut_207 : decode cX8_isPut 207 = .ok (.invokevirtual 202, 3) := by decide +kernel
theorem dX8_isPut_210 : decode cX8_isPut 210 = .ok (.aload_n 0, 1) := by decide +kernel
theorem dX8_isPut_211 : decode cX8_isPut 211 = .ok (.bipush 19, 2) := by decide +kernel
theorem dX8_isPut_213 : decode cX8_isPut 213 = .ok (.bipush 18, 2) := by decide +kernel
theorem dX8_isPut_215 : decode cX8_isPut 215 = .ok (.iload_n 2, 1) := by decide +kernel
theorem dX8_isPut_216 : decode cX8_isPut 216 = .ok (.bipush 9, 2) := by decide +kernel
theorem dX8_isPut_218 : decode cX8_isPut 218 = .ok (.if_icmp .ne 14, 3) := by decide +kernel
theorem dX8_isPut_221 : decode cX8_isPut 221 = .ok (.iconst 2, 1) := by decide +kernel
theorem dX8_isPut_222 : decode cX8_isPut 222 = .ok (.aload_n 0, 1) := by decide +kernel
theorem dX8_isPut_223 : decode cX8_isPut 223 = .ok (.getfield 7, 3) := by decide +kernel
theorem dX8_isPut_226 : decode cX8_isPut 226 = .ok (.iload_n 3, 1) := by decide +kernel
theorem dX8_isPut_227 : decode cX8_isPut 227 = .ok (.iaload, 1) := by decide +kernel
theorem dX8_isPut_228 : decode cX8_isPut 228 = .ok (.imul, 1) := by decide +kernel
theorem dX8_isPut_229 : decode cX8_isPut 229 = .ok (.goto 4, 3) := by decide +kernel
theorem dX8_isPut_232 : decode cX8_isPut 232 = .ok (.iconst 0, 1) := by decide +kernel
theorem dX8_isPut_233 : decode cX8_isPut 233 = .ok (.iload_n 2, 1) := by decide +kernel
theorem dX8_isPut_234 : decode cX8_isPut 234 = .ok (.bipush 10, 2) := by decide +kernel
theorem dX8_isPut_236 : decode cX8_isPut 236 = .ok (.if_icmp .ne 14, 3) := by decide +kernel
theorem dX8_isPut_239 : decode cX8_isPut 239 = .ok (.iconst 2, 1) := by decide +kernel
theorem dX8_isPut_240 : decode cX8_isPut 240 = .ok (.aload_n 0, 1) := by decide +kernel
theorem dX8_isPut_241 : decode cX8_isPut 241 = .ok (.getfield 13, 3) := by decide +kernel
theorem dX8_isPut_244 : decode cX8_isPut 244 = .ok (.iload_n 3, 1) := by decide +kernel
theorem dX8_isPut_245 : decode cX8_isPut 245 = .ok (.iaload, 1) := by decide +kernel
theorem dX8_isPut_246 : decode cX8_isPut 246 = .ok (.imul, 1) := by decide +kernel
theorem dX8_isPut_247 : decode cX8_isPut 247 = .ok (.goto 4, 3) := by decide +kernel
theorem dX8_isPut_250 : decode cX8_isPut 250 = .ok (.iconst 0, 1) := by decide +kernel
theorem dX8_isPut_251 : decode cX8_isPut 251 = .ok (.invokevirtual 202, 3) := by decide +kernel
theorem dX8_isPut_254 : decode cX8_isPut 254 = .ok (.iconst 1, 1) := by decide +kernel
theorem dX8_isPut_255 : decode cX8_isPut 255 = .ok (.ireturn, 1) := by decide +kernel
theorem dX8_read_0 : decode cX8_read 0 = .ok (.aload_n 0, 1) := by decide +kernel
theorem dX8_read_1 : decode cX8_read 1 = .ok (.iconst 0, 1) := by decide +kernel
theorem dX8_read_2 : decode cX8_read 2 = .ok (.putfield 148, 3) := by decide +kernel
theorem dX8_read_5 : decode cX8_read 5 = .ok (.aload_n 0, 1) := by decide +kernel
theorem dX8_read_6 : decode cX8_read 6 = .ok (.iconst 0, 1) := by decide +kernel
theorem dX8_read_7 : decode cX8_read 7 = .ok (.putfield 173, 3) := by decide +kernel
theorem dX8_read_10 : decode cX8_read 10 = .ok (.aload_n 0, 1) := by decide +kernel
theorem dX8_read_11 : decode cX8_read 11 = .ok (.iconst 0, 1) := by decide +kernel
theorem dX8_read_12 : decode cX8_read 12 = .ok (.putfield 182, 3) := by decide +kernel
theorem dX8_read_15 : decode cX8_read 15 = .ok (.aload_n 0, 1) := by decide +kernel
theorem dX8_read_16 : decode cX8_read 16 = .ok (.invokevirtual 170, 3) := by decide +kernel
theorem dX8_read_19 : decode cX8_read 19 = .ok (.aload_n 0, 1) := by decide +kernel
theorem dX8_read_20 : decode cX8_read 20 = .ok (.getfield 182, 3) := by decide +kernel
theorem dX8_read_23 : decode cX8_read 23 = .ok (.ifCond .eq 10, 3) := by decide +kernel
theorem dX8_read_26 : decode cX8_read 26 = .ok (.aload_n 0, 1) := by decide +kernel
theorem dX8_read_27 : decode cX8_read 27 = .ok (.getfield 173, 3) := by decide +kernel
theorem dX8_read_30 : decode cX8_read 30 = .ok (.ifCond .le 46, 3) := by decide +kernel
theorem dX8_read_33 : decode cX8_read 33 = .ok (.aload_n 0, 1) := by decide +kernel
theorem dX8_read_34 : decode cX8_read 34 = .ok (.iconst 0, 1) := by decide +kernel
theorem dX8_read_35 : decode cX8_read 35 = .ok (.putfield 182, 3) := by decide +kernel
theorem dX8_read_38 : decode cX8_read 38 = .ok (.aload_n 0, 1) := by decide +kernel
theorem dX8_read_39 : decode cX8_read 39 = .ok (.invokevirtual 206, 3) := by decide +kernel
theorem dX8_read_42 : decode cX8_read 42 = .ok (.istore_n 1, 1) := by decide +kernel
theorem dX8_read_43 : decode cX8_read 43 = .ok (.iload_n 1, 1) := by decide +kernel
theorem dX8_read_44 : decode cX8_read 44 = .ok (.ifCond .ne 23, 3) := by decide +kernel
theorem dX8_read_47 : decode cX8_read 47 = .ok (.aload_n 0, 1) := by decide +kernel
theorem dX8_read_48 : decode cX8_read 48 = .ok (.getfield 182, 3) := by decide +kernel
theorem dX8_read_51 : decode cX8_read 51 = .ok (.ifCond .eq 16, 3) := by decide +kernel
theorem dX8_read_54 : decode cX8_read 54 = .ok (.aload_n 0, 1) := by decide +kernel
theorem dX8_read_55 : decode cX8_read 55 = .ok (.invokevirtual 209, 3) := by decide +kernel
theorem dX8_read_58 : decode cX8_read 58 = .ok (.istore_n 1, 1) := by decide +kernel
theorem dX8_read_59 : decode cX8_read 59 = .ok (.iload_n 1, 1) := by decide +kernel
theorem dX8_read_60 : decode cX8_read 60 = .ok (.ifCond .ne 7, 3) := by decide +kernel
theorem dX8_read_63 : decode cX8_read 63 = .ok (.aload_n 0, 1) := by decide +kernel
theorem dX8_read_64 : decode cX8_read 64 = .ok (.invokevirtual 170, 3) := by decide +kernel
theorem dX8_read_67 : decode cX8_read 67 = .ok (.iload_n 1, 1) := by decide +kernel
theorem dX8_read_68 : decode cX8_read 68 = .ok (.ifCond .eq 5, 3) := by decide +kernel
theorem dX8_read_71 : decode cX8_read 71 = .ok (.iload_n 1, 1) := by decide +kernel
theorem dX8_read_72 : decode cX8_read 72 = .ok (.ireturn, 1) := by decide +kernel
theorem dX8_read_73 : decode cX8_read 73 = .ok (.goto (-54), 3) := by decide +kernel
theorem dX8_read_76 : decode cX8_read 76 = .ok (.aload_n 0, 1) := by decide +kernel
theorem dX8_read_77 : decode cX8_read 77 = .ok (.getfield 157, 3) := by decide +kernel
theorem dX8_read_80 : decode cX8_read 80 = .ok (.ifCond .ne 7, 3) := by decide +kernel
theorem dX8_read_83 : decode cX8_read 83 = .ok (.iconst 0, 1) := by decide +kernel
theorem dX8_read_84 : decode cX8_read 84 = .ok (.goto 4, 3) := by decide +kernel
theorem dX8_read_87 : decode cX8_read 87 = .ok (.iconst 1, 1) := by decide +kernel
theorem dX8_read_88 : decode cX8_read 88 = .ok (.ireturn, 1) := by decide +kernel
theorem dX8_isTold_0 : decode cX8_isTold 0 = .ok (.aload_n 0, 1) := by decide +kernel
theorem dX8_isTold_1 : decode cX8_isTold 1 = .ok (.iload_n 1, 1) := by decide +kernel
theorem dX8_isTold_2 : decode cX8_isTold 2 = .ok (.putfield 45, 3) := by decide +kernel
theorem dX8_isTold_5 : decode cX8_isTold 5 = .ok (.aload_n 0, 1) := by decide +kernel
theorem dX8_isTold_6 : decode cX8_isTold 6 = .ok (.iload_n 1, 1) := by decide +kernel
theorem dX8_isTold_7 : decode cX8_isTold 7 = .ok (.ifCond .ne 7, 3) := by decide +kernel
theorem dX8_isTold_10 : decode cX8_isTold 10 = .ok (.iconst (-1), 1) := by decide +kernel
theorem dX8_isTold_11 : decode cX8_isTold 11 = .ok (.goto 7, 3) := by decide +kernel
theorem dX8_isTold_14 : decode cX8_isTold 14 = .ok (.aload_n 0, 1) := by decide +kernel
theorem dX8_isTold_15 : decode cX8_isTold 15 = .ok (.getfield 154, 3) := by decide +kernel
theorem dX8_isTold_18 : decode cX8_isTold 18 = .ok (.putfield 49, 3) := by decide +kernel
theorem dX8_isTold_21 : decode cX8_isTold 21 = .ok (.aload_n 0, 1) := by decide +kernel
theorem dX8_isTold_22 : decode cX8_isTold 22 = .ok (.iconst 0, 1) := by decide +kernel
theorem dX8_isTold_23 : decode cX8_isTold 23 = .ok (.putfield 121, 3) := by decide +kernel
theorem dX8_isTold_26 : decode cX8_isTold 26 = .ok (.iload_n 1, 1) := by decide +kernel
theorem dX8_isTold_27 : decode cX8_isTold 27 = .ok (.ifCond .eq 5, 3) := by decide +kernel
theorem dX8_isTold_30 : decode cX8_isTold 30 = .ok (.iconst 0, 1) := by decide +kernel
theorem dX8_isTold_31 : decode cX8_isTold 31 = .ok (.ireturn, 1) := by decide +kernel
theorem dX8_isTold_32 : decode cX8_isTold 32 = .ok (.aload_n 0, 1) := by decide +kernel
theorem dX8_isTold_33 : decode cX8_isTold 33 = .ok (.bipush 18, 2) := by decide +kernel
theorem dX8_isTold_35 : decode cX8_isTold 35 = .ok (.iconst 0, 1) := by decide +kernel
theorem dX8_isTold_36 : decode cX8_isTold 36 = .ok (.invokevirtual 128, 3) := by decide +kernel
theorem dX8_isTold_39 : decode cX8_isTold 39 = .ok (.iconst 0, 1) := by decide +kernel
theorem dX8_isTold_40 : decode cX8_isTold 40 = .ok (.istore_n 2, 1) := by decide +kernel
theorem dX8_isTold_41 : decode cX8_isTold 41 = .ok (.iload_n 2, 1) := by decide +kernel
theorem dX8_isTold_42 : decode cX8_isTold 42 = .ok (.sipush 289, 3) := by decide +kernel
theorem dX8_isTold_45 : decode cX8_isTold 45 = .ok (.if_icmp .ge 16, 3) := by decide +kernel
theorem dX8_isTold_48 : decode cX8_isTold 48 = .ok (.aload_n 0, 1) := by decide +kernel
theorem dX8_isTold_49 : decode cX8_isTold 49 = .ok (.getfield 20, 3) := by decide +kernel
theorem dX8_isTold_52 : decode cX8_isTold 52 = .ok (.iload_n 2, 1) := by decide +kernel
theorem dX8_isTold_53 : decode cX8_isTold 53 = .ok (.iconst 0, 1) := by decide +kernel
theorem dX8_isTold_54 : decode cX8_isTold 54 = .ok (.bastore, 1) := by decide +kernel
theorem dX8_isTold_55 : decode cX8_isTold 55 = .ok (.iinc 2 1, 3) := by decide +kernel
theorem dX8_isTold_58 : decode cX8_isTold 58 = .ok (.goto (-17), 3) := by decide +kernel
theorem dX8_isTold_61 : decode cX8_isTold 61 = .ok (.iconst 1, 1) := by decide +kernel
theorem dX8_isTold_62 : decode cX8_isTold 62 = .ok (.ireturn, 1) := by decide +kernel
theorem dX8_draw_0 : decode cX8_draw 0 = .ok (.aload_n 0, 1) := by decide +kernel
theorem dX8_draw_1 : decode cX8_draw 1 = .ok (.aload_n 0, 1) := by decide +kernel
theorem dX8_draw_2 : decode cX8_draw 2 = .ok (.invokevirtual 212, 3) := by decide +kernel
theorem dX8_draw_5 : decode cX8_draw 5 = .ok (.invokevirtual 215, 3) := by decide +kernel
theorem dX8_draw_8 : decode cX8_draw 8 = .ok (.ifCond .eq 19, 3) := by decide +kernel
theorem dX8_draw_11 : decode cX8_draw 11 = .ok (.aload_n 0, 1) := by decide +kernel
theorem dX8_draw_12 : decode cX8_draw 12 = .ok (.getfield 7, 3) := by decide +kernel
theorem dX8_draw_15 : decode cX8_draw 15 = .ok (.iconst 0, 1) := by decide +kernel
theorem dX8_draw_16 : decode cX8_draw 16 = .ok (.iaload, 1) := by decide +kernel
theorem dX8_draw_17 : decode cX8_draw 17 = .ok (.aload_n 0, 1) := by decide +kernel
theorem dX8_draw_18 : decode cX8_draw 18 = .ok (.getfield 13, 3) := by decide +kernel
theorem dX8_draw_21 : decode cX8_draw 21 = .ok (.iconst 0, 1) := by decide +kernel
theorem dX8_draw_22 : decode cX8_draw 22 = .ok (.iaload, 1) := by decide +kernel
theorem dX8_draw_23 : decode cX8_draw 23 = .ok (.imul, 1) := by decide +kernel
theorem dX8_draw_24 : decode cX8_draw 24 = .ok (.goto 4, 3) := by decide +kernel
theorem dX8_draw_27 : decode cX8_draw 27 = .ok (.iconst (-1), 1) := by decide +kernel
theorem dX8_draw_28 : decode cX8_draw 28 = .ok (.ireturn, 1) := by decide +kernel
theorem dX8_fault_0 : decode cX8_fault 0 = .ok (.iload_n 1, 1) := by decide +kernel
theorem dX8_fault_1 : decode cX8_fault 1 = .ok (.ifCond .ne 10, 3) := by decide +kernel
theorem dX8_fault_4 : decode cX8_fault 4 = .ok (.aload_n 0, 1) := by decide +kernel
theorem dX8_fault_5 : decode cX8_fault 5 = .ok (.getfield 45, 3) := by decide +kernel
theorem dX8_fault_8 : decode cX8_fault 8 = .ok (.goto 16, 3) := by decide +kernel
theorem dX8_fault_11 : decode cX8_fault 11 = .ok (.iload_n 1, 1) := by decide +kernel
theorem dX8_fault_12 : decode cX8_fault 12 = .ok (.iconst 1, 1) := by decide +kernel
theorem dX8_fault_13 : decode cX8_fault 13 = .ok (.if_icmp .ne 10, 3) := by decide +kernel
theorem dX8_fault_16 : decode cX8_fault 16 = .ok (.aload_n 0, 1) := by decide +kernel
theorem dX8_fault_17 : decode cX8_fault 17 = .ok (.getfield 49, 3) := by decide +kernel
theorem dX8_fault_20 : decode cX8_fault 20 = .ok (.goto 4, 3) := by decide +kernel
theorem dX8_fault_23 : decode cX8_fault 23 = .ok (.iconst (-1), 1) := by decide +kernel
theorem dX8_fault_24 : decode cX8_fault 24 = .ok (.ireturn, 1) := by decide +kernel
theorem dX8_bend_0 : decode cX8_bend 0 = .ok (.bipush 17, 2) := by decide +kernel
theorem dX8_bend_2 : decode cX8_bend 2 = .ok (.iload_n 2, 1) := by decide +kernel
theorem dX8_bend_3 : decode cX8_bend 3 = .ok (.imul, 1) := by decide +kernel
theorem dX8_bend_4 : decode cX8_bend 4 = .ok (.iload_n 1, 1) := by decide +kernel
theorem dX8_bend_5 : decode cX8_bend 5 = .ok (.iadd, 1) := by decide +kernel
theorem dX8_bend_6 : decode cX8_bend 6 = .ok (.istore 5, 2) := by decide +kernel
theorem dX8_bend_8 : decode cX8_bend 8 = .ok (.aload_n 0, 1) := by decide +kernel
theorem dX8_bend_9 : decode cX8_bend 9 = .ok (.bipush 18, 2) := by decide +kernel
theorem dX8_bend_11 : decode cX8_bend 11 = .ok (.iload_n 1, 1) := by decide +kernel
theorem dX8_bend_12 : decode cX8_bend 12 = .ok (.iload_n 2, 1) := by decide +kernel
theorem dX8_bend_13 : decode cX8_bend 13 = .ok (.invokevirtual 74, 3) := by decide +kernel
theorem dX8_bend_16 : decode cX8_bend 16 = .ok (.ifCond .eq 13, 3) := by decide +kernel
theorem dX8_bend_19 : decode cX8_bend 19 = .ok (.aload_n 0, 1) := by decide +kernel
theorem dX8_bend_20 : decode cX8_bend 20 = .ok (.getfield 67, 3) := by decide +kernel
theorem dX8_bend_23 : decode cX8_bend 23 = .ok (.iload 5, 2) := by decide +kernel
theorem dX8_bend_25 : decode cX8_bend 25 = .ok (.baload, 1) := by decide +kernel
theorem dX8_bend_26 : decode cX8_bend 26 = .ok (.ifCond .eq 4, 3) := by decide +kernel
theorem dX8_bend_29 : decode cX8_bend 29 = .ok (.return_, 1) := by decide +kernel
theorem dX8_bend_30 : decode cX8_bend 30 = .ok (.aload_n 0, 1) := by decide +kernel
theorem dX8_bend_31 : decode cX8_bend 31 = .ok (.getfield 67, 3) := by decide +kernel
theorem dX8_bend_34 : decode cX8_bend 34 = .ok (.iload 5, 2) := by decide +kernel
theorem dX8_bend_36 : decode cX8_bend 36 = .ok (.iconst 1, 1) := by decide +kernel
theorem dX8_bend_37 : decode cX8_bend 37 = .ok (.bastore, 1) := by decide +kernel
theorem dX8_bend_38 : decode cX8_bend 38 = .ok (.aload_n 0, 1) := by decide +kernel
theorem dX8_bend_39 : decode cX8_bend 39 = .ok (.getfield 16, 3) := by decide +kernel
theorem dX8_bend_42 : decode cX8_bend 42 = .ok (.sipush 5202, 3) := by decide +kernel
theorem dX8_bend_45 : decode cX8_bend 45 = .ok (.iload 5, 2) := by decide +kernel
theorem dX8_bend_47 : decode cX8_bend 47 = .ok (.iadd, 1) := by decide +kernel
theorem dX8_bend_48 : decode cX8_bend 48 = .ok (.iload_n 3, 1) := by decide +kernel
theorem dX8_bend_49 : decode cX8_bend 49 = .ok (.invokestatic 218, 3) := by decide +kernel
theorem dX8_bend_52 : decode cX8_bend 52 = .ok (.iload 4, 2) := by decide +kernel
theorem dX8_bend_54 : decode cX8_bend 54 = .ok (.invokestatic 218, 3) := by decide +kernel
theorem dX8_bend_57 : decode cX8_bend 57 = .ok (.if_icmp .eq 7, 3) := by decide +kernel
theorem dX8_bend_60 : decode cX8_bend 60 = .ok (.iconst 1, 1) := by decide +kernel
theorem dX8_bend_61 : decode cX8_bend 61 = .ok (.goto 20, 3) := by decide +kernel
theorem dX8_bend_64 : decode cX8_bend 64 = .ok (.iload_n 3, 1) := by decide +kernel
theorem dX8_bend_65 : decode cX8_bend 65 = .ok (.invokestatic 221, 3) := by decide +kernel
theorem dX8_bend_68 : decode cX8_bend 68 = .ok (.iload 4, 2) := by decide +kernel
theorem dX8_bend_70 : decode cX8_bend 70 = .ok (.invokestatic 221, 3) := by decide +kernel
theorem dX8_bend_73 : decode cX8_bend 73 = .ok (.if_icmp .eq 7, 3) := by decide +kernel
theorem dX8_bend_76 : decode cX8_bend 76 = .ok (.iconst 2, 1) := by decide +kernel
theorem dX8_bend_77 : decode cX8_bend 77 = .ok (.goto 4, 3) := by decide +kernel
theorem dX8_bend_80 : decode cX8_bend 80 = .ok (.iconst 0, 1) := by decide +kernel
theorem dX8_bend_81 : decode cX8_bend 81 = .ok (.i2b, 1) := by decide +kernel
theorem dX8_bend_82 : decode cX8_bend 82 = .ok (.bastore, 1) := by decide +kernel
theorem dX8_bend_83 : decode cX8_bend 83 = .ok (.aload_n 0, 1) := by decide +kernel
theorem dX8_bend_84 : decode cX8_bend 84 = .ok (.dup, 1) := by decide +kernel
theorem dX8_bend_85 : decode cX8_bend 85 = .ok (.getfield 224, 3) := by decide +kernel
theorem dX8_bend_88 : decode cX8_bend 88 = .ok (.iconst 1, 1) := by decide +kernel
theorem dX8_bend_89 : decode cX8_bend 89 = .ok (.iadd, 1) := by decide +kernel
theorem dX8_bend_90 : decode cX8_bend 90 = .ok (.putfield 224, 3) := by decide +kernel
theorem dX8_bend_93 : decode cX8_bend 93 = .ok (.return_, 1) := by decide +kernel
theorem dX8_dxOf_0 : decode cX8_dxOf 0 = .ok (.iload_n 0, 1) := by decide +kernel
theorem dX8_dxOf_1 : decode cX8_dxOf 1 = .ok (.bipush 97, 2) := by decide +kernel
theorem dX8_dxOf_3 : decode cX8_dxOf 3 = .ok (.if_icmp .eq 9, 3) := by decide +kernel
theorem dX8_dxOf_6 : decode cX8_dxOf 6 = .ok (.iload_n 0, 1) := by decide +kernel
theorem dX8_dxOf_7 : decode cX8_dxOf 7 = .ok (.bipush 100, 2) := by decide +kernel
theorem dX8_dxOf_9 : decode cX8_dxOf 9 = .ok (.if_icmp .ne 7, 3) := by decide +kernel
theorem dX8_dxOf_12 : decode cX8_dxOf 12 = .ok (.iconst 1, 1) := by decide +kernel
theorem dX8_dxOf_13 : decode cX8_dxOf 13 = .ok (.goto 4, 3) := by decide +kernel
theorem dX8_dxOf_16 : decode cX8_dxOf 16 = .ok (.iconst (-1), 1) := by decide +kernel
theorem dX8_dxOf_17 : decode cX8_dxOf 17 = .ok (.ireturn, 1) := by decide +kernel
theorem dX8_dyOf_0 : decode cX8_dyOf 0 = .ok (.iload_n 0, 1) := by decide +kernel
theorem dX8_dyOf_1 : decode cX8_dyOf 1 = .ok (.bipush 97, 2) := by decide +kernel
theorem dX8_dyOf_3 : decode cX8_dyOf 3 = .ok (.if_icmp .eq 9, 3) := by decide +kernel
theorem dX8_dyOf_6 : decode cX8_dyOf 6 = .ok (.iload_n 0, 1) := by decide +kernel
theorem dX8_dyOf_7 : decode cX8_dyOf 7 = .ok (.bipush 98, 2) := by decide +kernel
theorem dX8_dyOf_9 : decode cX8_dyOf 9 = .ok (.if_icmp .ne 7, 3) := by decide +kernel
theorem dX8_dyOf_12 : decode cX8_dyOf 12 = .ok (.iconst 1, 1) := by decide +kernel
theorem dX8_dyOf_13 : decode cX8_dyOf 13 = .ok (.goto 4, 3) := by decide +kernel
theorem dX8_dyOf_16 : decode cX8_dyOf 16 = .ok (.iconst (-1), 1) := by decide +kernel
theorem dX8_dyOf_17 : decode cX8_dyOf 17 = .ok (.ireturn, 1) := by decide +kernel
theorem dX8_walkBack_0 : decode cX8_walkBack 0 = .ok (.iload_n 1, 1) := by decide +kernel
theorem dX8_walkBack_1 : decode cX8_walkBack 1 = .ok (.istore_n 3, 1) := by decide +kernel
theorem dX8_walkBack_2 : decode cX8_walkBack 2 = .ok (.iload_n 2, 1) := by decide +kernel
theorem dX8_walkBack_3 : decode cX8_walkBack 3 = .ok (.istore 4, 2) := by decide +kernel
theorem dX8_walkBack_5 : decode cX8_walkBack 5 = .ok (.iconst 0, 1) := by decide +kernel
theorem dX8_walkBack_6 : decode cX8_walkBack 6 = .ok (.istore 5, 2) := by decide +kernel
theorem dX8_walkBack_8 : decode cX8_walkBack 8 = .ok (.iload 5, 2) := by decide +kernel
theorem dX8_walkBack_10 : decode cX8_walkBack 10 = .ok (.aload_n 0, 1) := by decide +kernel
theorem dX8_walkBack_11 : decode cX8_walkBack 11 = .ok (.getfield 121, 3) := by decide +kernel
theorem dX8_walkBack_14 : decode cX8_walkBack 14 = .ok (.if_icmp .ge 184, 3) := by decide +kernel
theorem dX8_walkBack_17 : decode cX8_walkBack 17 = .ok (.aload_n 0, 1) := by decide +kernel
theorem dX8_walkBack_18 : decode cX8_walkBack 18 = .ok (.getfield 42, 3) := by decide +kernel
theorem dX8_walkBack_21 : decode cX8_walkBack 21 = .ok (.iload 5, 2) := by decide +kernel
theorem dX8_walkBack_23 : decode cX8_walkBack 23 = .ok (.iaload, 1) := by decide +kernel
theorem dX8_walkBack_24 : decode cX8_walkBack 24 = .ok (.istore 6, 2) := by decide +kernel
theorem dX8_walkBack_26 : decode cX8_walkBack 26 = .ok (.aload_n 0, 1) := by decide +kernel
theorem dX8_walkBack_27 : decode cX8_walkBack 27 = .ok (.iload 5, 2) := by decide +kernel
theorem dX8_walkBack_29 : decode cX8_walkBack 29 = .ok (.putfield 154, 3) := by decide +kernel
theorem dX8_walkBack_32 : decode cX8_walkBack 32 = .ok (.iload 6, 2) := by decide +kernel
theorem dX8_walkBack_34 : decode cX8_walkBack 34 = .ok (.bipush 97, 2) := by decide +kernel
theorem dX8_walkBack_36 : decode cX8_walkBack 36 = .ok (.bipush 100, 2) := by decide +kernel
theorem dX8_walkBack_38 : decode cX8_walkBack 38 = .ok (.invokestatic 70, 3) := by decide +kernel
theorem dX8_walkBack_41 : decode cX8_walkBack 41 = .ok (.ifCond .ne 5, 3) := by decide +kernel
theorem dX8_walkBack_44 : decode cX8_walkBack 44 = .ok (.iconst 1, 1) := by decide +kernel
theorem dX8_walkBack_45 : decode cX8_walkBack 45 = .ok (.ireturn, 1) := by decide +kernel
theorem dX8_walkBack_46 : decode cX8_walkBack 46 = .ok (.iload_n 3, 1) := by decide +kernel
theorem dX8_walkBack_47 : decode cX8_walkBack 47 = .ok (.iload 6, 2) := by decide +kernel
theorem dX8_walkBack_49 : decode cX8_walkBack 49 = .ok (.invokestatic 218, 3) := by decide +kernel
theorem dX8_walkBack_52 : decode cX8_walkBack 52 = .ok (.iadd, 1) := by decide +kernel
theorem dX8_walkBack_53 : decode cX8_walkBack 53 = .ok (.istore 7, 2) := by decide +kernel
theorem dX8_walkBack_55 : decode cX8_walkBack 55 = .ok (.iload 4, 2) := by decide +kernel
theorem dX8_walkBack_57 : decode cX8_walkBack 57 = .ok (.iload 6, 2) := by decide +kernel
theorem dX8_walkBack_59 : decode cX8_walkBack 59 = .ok (.invokestatic 221, 3) := by decide +kernel
theorem dX8_walkBack_62 : decode cX8_walkBack 62 = .ok (.iadd, 1) := by decide +kernel
theorem dX8_walkBack_63 : decode cX8_walkBack 63 = .ok (.istore 8, 2) := by decide +kernel
theorem dX8_walkBack_65 : decode cX8_walkBack 65 = .ok (.iload 7, 2) := by decide +kernel
theorem dX8_walkBack_67 : decode cX8_walkBack 67 = .ok (.iconst 0, 1) := by decide +kernel
theorem dX8_walkBack_68 : decode cX8_walkBack 68 = .ok (.iconst 2, 1) := by decide +kernel
theorem dX8_walkBack_69 : decode cX8_walkBack 69 = .ok (.aload_n 0, 1) := by decide +kernel
theorem dX8_walkBack_70 : decode cX8_walkBack 70 = .ok (.getfield 7, 3) := by decide +kernel
theorem dX8_walkBack_73 : decode cX8_walkBack 73 = .ok (.bipush 18, 2) := by decide +kernel
theorem dX8_walkBack_75 : decode cX8_walkBack 75 = .ok (.iaload, 1) := by decide +kernel
theorem dX8_walkBack_76 : decode cX8_walkBack 76 = .ok (.imul, 1) := by decide +kernel
theorem dX8_walkBack_77 : decode cX8_walkBack 77 = .ok (.invokestatic 70, 3) := by decide +kernel
theorem dX8_walkBack_80 : decode cX8_walkBack 80 = .ok (.ifCond .eq 21, 3) := by decide +kernel
theorem dX8_walkBack_83 : decode cX8_walkBack 83 = .ok (.iload 8, 2) := by decide +kernel
theorem dX8_walkBack_85 : decode cX8_walkBack 85 = .ok (.iconst 0, 1) := by decide +kernel
theorem dX8_walkBack_86 : decode cX8_walkBack 86 = .ok (.iconst 2, 1) := by decide +kernel
theorem dX8_walkBack_87 : decode cX8_walkBack 87 = .ok (.aload_n 0, 1) := by decide +kernel
theorem dX8_walkBack_88 : decode cX8_walkBack 88 = .ok (.getfield 13, 3) := by decide +kernel
theorem dX8_walkBack_91 : decode cX8_walkBack 91 = .ok (.bipush 18, 2) := by decide +kernel
theorem dX8_walkBack_93 : decode cX8_walkBack 93 = .ok (.iaload, 1) := by decide +kernel
theorem dX8_walkBack_94 : decode cX8_walkBack 94 = .ok (.imul, 1) := by decide +kernel
theorem dX8_walkBack_95 : decode cX8_walkBack 95 = .ok (.invokestatic 70, 3) := by decide +kernel
theorem dX8_walkBack_98 : decode cX8_walkBack 98 = .ok (.ifCond .ne 5, 3) := by decide +kernel
theorem dX8_walkBack_101 : decode cX8_walkBack 101 = .ok (.iconst 2, 1) := by decide +kernel
theorem dX8_walkBack_102 : decode cX8_walkBack 102 = .ok (.ireturn, 1) := by decide +kernel
theorem dX8_walkBack_103 : decode cX8_walkBack 103 = .ok (.iconst 2, 1) := by decide +kernel
theorem dX8_walkBack_104 : decode cX8_walkBack 104 = .ok (.aload_n 0, 1) := by decide +kernel
theorem dX8_walkBack_105 : decode cX8_walkBack 105 = .ok (.getfield 7, 3) := by decide +kernel
theorem dX8_walkBack_108 : decode cX8_walkBack 108 = .ok (.bipush 18, 2) := by decide +kernel
theorem dX8_walkBack_110 : decode cX8_walkBack 110 = .ok (.iaload, 1) := by decide +kernel
theorem dX8_walkBack_111 : decode cX8_walkBack 111 = .ok (.imul, 1) := by decide +kernel
theorem dX8_walkBack_112 : decode cX8_walkBack 112 = .ok (.iload 8, 2) := by decide +kernel
theorem dX8_walkBack_114 : decode cX8_walkBack 114 = .ok (.iload 4, 2) := by decide +kernel
theorem dX8_walkBack_116 : decode cX8_walkBack 116 = .ok (.if_icmp .ge 8, 3) := by decide +kernel
theorem dX8_walkBack_119 : decode cX8_walkBack 119 = .ok (.iload 8, 2) := by decide +kernel
theorem dX8_walkBack_121 : decode cX8_walkBack 121 = .ok (.goto 5, 3) := by decide +kernel
theorem dX8_walkBack_124 : decode cX8_walkBack 124 = .ok (.iload 4, 2) := by decide +kernel
theorem dX8_walkBack_126 : decode cX8_walkBack 126 = .ok (.imul, 1) := by decide +kernel
theorem dX8_walkBack_127 : decode cX8_walkBack 127 = .ok (.iload 7, 2) := by decide +kernel
theorem dX8_walkBack_129 : decode cX8_walkBack 129 = .ok (.iload_n 3, 1) := by decide +kernel
theorem dX8_walkBack_130 : decode cX8_walkBack 130 = .ok (.if_icmp .ge 8, 3) := by decide +kernel
theorem dX8_walkBack_133 : decode cX8_walkBack 133 = .ok (.iload 7, 2) := by decide +kernel
theorem dX8_walkBack_135 : decode cX8_walkBack 135 = .ok (.goto 4, 3) := by decide +kernel
theorem dX8_walkBack_138 : decode cX8_walkBack 138 = .ok (.iload_n 3, 1) := by decide +kernel
theorem dX8_walkBack_139 : decode cX8_walkBack 139 = .ok (.iadd, 1) := by decide +kernel
theorem dX8_walkBack_140 : decode cX8_walkBack 140 = .ok (.istore 9, 2) := by decide +kernel
theorem dX8_walkBack_142 : decode cX8_walkBack 142 = .ok (.aload_n 0, 1) := by decide +kernel
theorem dX8_walkBack_143 : decode cX8_walkBack 143 = .ok (.getfield 64, 3) := by decide +kernel
theorem dX8_walkBack_146 : decode cX8_walkBack 146 = .ok (.iload 9, 2) := by decide +kernel
theorem dX8_walkBack_148 : decode cX8_walkBack 148 = .ok (.baload, 1) := by decide +kernel
theorem dX8_walkBack_149 : decode cX8_walkBack 149 = .ok (.ifCond .eq 5, 3) := by decide +kernel
theorem dX8_walkBack_152 : decode cX8_walkBack 152 = .ok (.iconst 3, 1) := by decide +kernel
theorem dX8_walkBack_153 : decode cX8_walkBack 153 = .ok (.ireturn, 1) := by decide +kernel
theorem dX8_walkBack_154 : decode cX8_walkBack 154 = .ok (.iload 5, 2) := by decide +kernel
theorem dX8_walkBack_156 : decode cX8_walkBack 156 = .ok (.ifCond .le 21, 3) := by decide +kernel
theorem dX8_walkBack_159 : decode cX8_walkBack 159 = .ok (.aload_n 0, 1) := by decide +kernel
theorem dX8_walkBack_160 : decode cX8_walkBack 160 = .ok (.iload_n 3, 1) := by decide +kernel
theorem dX8_walkBack_161 : decode cX8_walkBack 161 = .ok (.iload 4, 2) := by decide +kernel
theorem dX8_walkBack_163 : decode cX8_walkBack 163 = .ok (.aload_n 0, 1) := by decide +kernel
theorem dX8_walkBack_164 : decode cX8_walkBack 164 = .ok (.getfield 42, 3) := by decide +kernel
theorem dX8_walkBack_167 : decode cX8_walkBack 167 = .ok (.iload 5, 2) := by decide +kernel
theorem dX8_walkBack_169 : decode cX8_walkBack 169 = .ok (.iconst 1, 1) := by decide +kernel
theorem dX8_walkBack_170 : decode cX8_walkBack 170 = .ok (.isub, 1) := by decide +kernel
theorem dX8_walkBack_171 : decode cX8_walkBack 171 = .ok (.iaload, 1) := by decide +kernel
theorem dX8_walkBack_172 : decode cX8_walkBack 172 = .ok (.iload 6, 2) := by decide +kernel
theorem dX8_walkBack_174 : decode cX8_walkBack 174 = .ok (.invokevirtual 227, 3) := by decide +kernel
theorem dX8_walkBack_177 : decode cX8_walkBack 177 = .ok (.aload_n 0, 1) := by decide +kernel
theorem dX8_walkBack_178 : decode cX8_walkBack 178 = .ok (.getfield 64, 3) := by decide +kernel
theorem dX8_walkBack_181 : decode cX8_walkBack 181 = .ok (.iload 9, 2) := by decide +kernel
theorem dX8_walkBack_183 : decode cX8_walkBack 183 = .ok (.iconst 1, 1) := by decide +kernel
theorem dX8_walkBack_184 : decode cX8_walkBack 184 = .ok (.bastore, 1) := by decide +kernel
theorem dX8_walkBack_185 : decode cX8_walkBack 185 = .ok (.iload 7, 2) := by decide +kernel
theorem dX8_walkBack_187 : decode cX8_walkBack 187 = .ok (.istore_n 3, 1) := by decide +kernel
theorem dX8_walkBack_188 : decode cX8_walkBack 188 = .ok (.iload 8, 2) := by decide +kernel
theorem dX8_walkBack_190 : decode cX8_walkBack 190 = .ok (.istore 4, 2) := by decide +kernel
theorem dX8_walkBack_192 : decode cX8_walkBack 192 = .ok (.iinc 5 1, 3) := by decide +kernel
theorem dX8_walkBack_195 : decode cX8_walkBack 195 = .ok (.goto (-187), 3) := by decide +kernel
theorem dX8_walkBack_198 : decode cX8_walkBack 198 = .ok (.aload_n 0, 1) := by decide +kernel
theorem dX8_walkBack_199 : decode cX8_walkBack 199 = .ok (.aload_n 0, 1) := by decide +kernel
theorem dX8_walkBack_200 : decode cX8_walkBack 200 = .ok (.getfield 121, 3) := by decide +kernel
theorem dX8_walkBack_203 : decode cX8_walkBack 203 = .ok (.putfield 154, 3) := by decide +kernel
theorem dX8_walkBack_206 : decode cX8_walkBack 206 = .ok (.aload_n 0, 1) := by decide +kernel
theorem dX8_walkBack_207 : decode cX8_walkBack 207 = .ok (.getfield 121, 3) := by decide +kernel
theorem dX8_walkBack_210 : decode cX8_walkBack 210 = .ok (.ifCond .eq 14, 3) := by decide +kernel
theorem dX8_walkBack_213 : decode cX8_walkBack 213 = .ok (.iload_n 3, 1) := by decide +kernel
theorem dX8_walkBack_214 : decode cX8_walkBack 214 = .ok (.iload_n 1, 1) := by decide +kernel
theorem dX8_walkBack_215 : decode cX8_walkBack 215 = .ok (.if_icmp .ne 9, 3) := by decide +kernel
theorem dX8_walkBack_218 : decode cX8_walkBack 218 = .ok (.iload 4, 2) := by decide +kernel
theorem dX8_walkBack_220 : decode cX8_walkBack 220 = .ok (.iload_n 2, 1) := by decide +kernel
theorem dX8_walkBack_221 : decode cX8_walkBack 221 = .ok (.if_icmp .eq 5, 3) := by decide +kernel
theorem dX8_walkBack_224 : decode cX8_walkBack 224 = .ok (.iconst 4, 1) := by decide +kernel
theorem dX8_walkBack_225 : decode cX8_walkBack 225 = .ok (.ireturn, 1) := by decide +kernel
theorem dX8_walkBack_226 : decode cX8_walkBack 226 = .ok (.aload_n 0, 1) := by decide +kernel
theorem dX8_walkBack_227 : decode cX8_walkBack 227 = .ok (.iload_n 3, 1) := by decide +kernel
theorem dX8_walkBack_228 : decode cX8_walkBack 228 = .ok (.iload 4, 2) := by decide +kernel
theorem dX8_walkBack_230 : decode cX8_walkBack 230 = .ok (.aload_n 0, 1) := by decide +kernel
theorem dX8_walkBack_231 : decode cX8_walkBack 231 = .ok (.getfield 42, 3) := by decide +kernel
theorem dX8_walkBack_234 : decode cX8_walkBack 234 = .ok (.aload_n 0, 1) := by decide +kernel
theorem dX8_walkBack_235 : decode cX8_walkBack 235 = .ok (.getfield 121, 3) := by decide +kernel
theorem dX8_walkBack_238 : decode cX8_walkBack 238 = .ok (.iconst 1, 1) := by decide +kernel
theorem dX8_walkBack_239 : decode cX8_walkBack 239 = .ok (.isub, 1) := by decide +kernel
theorem dX8_walkBack_240 : decode cX8_walkBack 240 = .ok (.iaload, 1) := by decide +kernel
theorem dX8_walkBack_241 : decode cX8_walkBack 241 = .ok (.aload_n 0, 1) := by decide +kernel
theorem dX8_walkBack_242 : decode cX8_walkBack 242 = .ok (.getfield 42, 3) := by decide +kernel
theorem dX8_walkBack_245 : decode cX8_walkBack 245 = .ok (.iconst 0, 1) := by decide +kernel
theorem dX8_walkBack_246 : decode cX8_walkBack 246 = .ok (.iaload, 1) := by decide +kernel
theorem dX8_walkBack_247 : decode cX8_walkBack 247 = .ok (.invokevirtual 227, 3) := by decide +kernel
theorem dX8_walkBack_250 : decode cX8_walkBack 250 = .ok (.iconst 0, 1) := by decide +kernel
theorem dX8_walkBack_251 : decode cX8_walkBack 251 = .ok (.ireturn, 1) := by decide +kernel
theorem dX8_back_0 : decode cX8_back 0 = .ok (.iload_n 1, 1) := by decide +kernel
theorem dX8_back_1 : decode cX8_back 1 = .ok (.iconst 1, 1) := by decide +kernel
theorem dX8_back_2 : decode cX8_back 2 = .ok (.bipush 8, 2) := by decide +kernel
theorem dX8_back_4 : decode cX8_back 4 = .ok (.invokestatic 70, 3) := by decide +kernel
theorem dX8_back_7 : decode cX8_back 7 = .ok (.ifCond .eq 45, 3) := by decide +kernel
theorem dX8_back_10 : decode cX8_back 10 = .ok (.iload_n 2, 1) := by decide +kernel
theorem dX8_back_11 : decode cX8_back 11 = .ok (.iconst 1, 1) := by decide +kernel
theorem dX8_back_12 : decode cX8_back 12 = .ok (.bipush 8, 2) := by decide +kernel
theorem dX8_back_14 : decode cX8_back 14 = .ok (.invokestatic 70, 3) := by decide +kernel
theorem dX8_back_17 : decode cX8_back 17 = .ok (.ifCond .eq 35, 3) := by decide +kernel
theorem dX8_back_20 : decode cX8_back 20 = .ok (.iload_n 3, 1) := by decide +kernel
theorem dX8_back_21 : decode cX8_back 21 = .ok (.iconst 0, 1) := by decide +kernel
theorem dX8_back_22 : decode cX8_back 22 = .ok (.iconst 2, 1) := by decide +kernel
theorem dX8_back_23 : decode cX8_back 23 = .ok (.iload_n 1, 1) := by decide +kernel
theorem dX8_back_24 : decode cX8_back 24 = .ok (.imul, 1) := by decide +kernel
theorem dX8_back_25 : decode cX8_back 25 = .ok (.invokestatic 70, 3) := by decide +kernel
theorem dX8_back_28 : decode cX8_back 28 = .ok (.ifCond .eq 24, 3) := by decide +kernel
theorem dX8_back_31 : decode cX8_back 31 = .ok (.iload 4, 2) := by decide +kernel
theorem dX8_back_33 : decode cX8_back 33 = .ok (.iconst 0, 1) := by decide +kernel
theorem dX8_back_34 : decode cX8_back 34 = .ok (.iconst 2, 1) := by decide +kernel
theorem dX8_back_35 : decode cX8_back 35 = .ok (.iload_n 2, 1) := by decide +kernel
theorem dX8_back_36 : decode cX8_back 36 = .ok (.imul, 1) := by decide +kernel
theorem dX8_back_37 : decode cX8_back 37 = .ok (.invokestatic 70, 3) := by decide +kernel
theorem dX8_back_40 : decode cX8_back 40 = .ok (.ifCond .eq 12, 3) := by decide +kernel
theorem dX8_back_43 : decode cX8_back 43 = .ok (.iload_n 3, 1) := by decide +kernel
theorem dX8_back_44 : decode cX8_back 44 = .ok (.iload 4, 2) := by decide +kernel
theorem dX8_back_46 : decode cX8_back 46 = .ok (.iadd, 1) := by decide +kernel
theorem dX8_back_47 : decode cX8_back 47 = .ok (.iconst 2, 1) := by decide +kernel
theorem dX8_back_48 : decode cX8_back 48 = .ok (.irem, 1) := by decide +kernel
theorem dX8_back_49 : decode cX8_back 49 = .ok (.ifCond .ne 5, 3) := by decide +kernel
theorem dX8_back_52 : decode cX8_back 52 = .ok (.iconst (-1), 1) := by decide +kernel
theorem dX8_back_53 : decode cX8_back 53 = .ok (.ireturn, 1) := by decide +kernel
theorem dX8_back_54 : decode cX8_back 54 = .ok (.aload_n 0, 1) := by decide +kernel
theorem dX8_back_55 : decode cX8_back 55 = .ok (.bipush 18, 2) := by decide +kernel
theorem dX8_back_57 : decode cX8_back 57 = .ok (.iload_n 1, 1) := by decide +kernel
theorem dX8_back_58 : decode cX8_back 58 = .ok (.iload_n 2, 1) := by decide +kernel
theorem dX8_back_59 : decode cX8_back 59 = .ok (.invokevirtual 132, 3) := by decide +kernel
theorem dX8_back_62 : decode cX8_back 62 = .ok (.iconst 0, 1) := by decide +kernel
theorem dX8_back_63 : decode cX8_back 63 = .ok (.istore 5, 2) := by decide +kernel
theorem dX8_back_65 : decode cX8_back 65 = .ok (.iload 5, 2) := by decide +kernel
theorem dX8_back_67 : decode cX8_back 67 = .ok (.sipush 256, 3) := by decide +kernel
theorem dX8_back_70 : decode cX8_back 70 = .ok (.if_icmp .ge 17, 3) := by decide +kernel
theorem dX8_back_73 : decode cX8_back 73 = .ok (.aload_n 0, 1) := by decide +kernel
theorem dX8_back_74 : decode cX8_back 74 = .ok (.getfield 64, 3) := by decide +kernel
theorem dX8_back_77 : decode cX8_back 77 = .ok (.iload 5, 2) := by decide +kernel
theorem dX8_back_79 : decode cX8_back 79 = .ok (.iconst 0, 1) := by decide +kernel
theorem dX8_back_80 : decode cX8_back 80 = .ok (.bastore, 1) := by decide +kernel
theorem dX8_back_81 : decode cX8_back 81 = .ok (.iinc 5 1, 3) := by decide +kernel
theorem dX8_back_84 : decode cX8_back 84 = .ok (.goto (-19), 3) := by decide +kernel
theorem dX8_back_87 : decode cX8_back 87 = .ok (.iconst 0, 1) := by decide +kernel
theorem dX8_back_88 : decode cX8_back 88 = .ok (.istore 5, 2) := by decide +kernel
theorem dX8_back_90 : decode cX8_back 90 = .ok (.iload 5, 2) := by decide +kernel
theorem dX8_back_92 : decode cX8_back 92 = .ok (.sipush 289, 3) := by decide +kernel
theorem dX8_back_95 : decode cX8_back 95 = .ok (.if_icmp .ge 17, 3) := by decide +kernel
theorem dX8_back_98 : decode cX8_back 98 = .ok (.aload_n 0, 1) := by decide +kernel
theorem dX8_back_99 : decode cX8_back 99 = .ok (.getfield 67, 3) := by decide +kernel
theorem dX8_back_102 : decode cX8_back 102 = .ok (.iload 5, 2) := by decide +kernel
theorem dX8_back_104 : decode cX8_back 104 = .ok (.iconst 0, 1) := by decide +kernel
theorem dX8_back_105 : decode cX8_back 105 = .ok (.bastore, 1) := by decide +kernel
theorem dX8_back_106 : decode cX8_back 106 = .ok (.iinc 5 1, 3) := by decide +kernel
theorem dX8_back_109 : decode cX8_back 109 = .ok (.goto (-19), 3) := by decide +kernel
theorem dX8_back_112 : decode cX8_back 112 = .ok (.aload_n 0, 1) := by decide +kernel
theorem dX8_back_113 : decode cX8_back 113 = .ok (.iconst 0, 1) := by decide +kernel
theorem dX8_back_114 : decode cX8_back 114 = .ok (.putfield 224, 3) := by decide +kernel
theorem dX8_back_117 : decode cX8_back 117 = .ok (.aload_n 0, 1) := by decide +kernel
theorem dX8_back_118 : decode cX8_back 118 = .ok (.aload_n 0, 1) := by decide +kernel
theorem dX8_back_119 : decode cX8_back 119 = .ok (.iload_n 3, 1) := by decide +kernel
theorem dX8_back_120 : decode cX8_back 120 = .ok (.iload 4, 2) := by decide +kernel
theorem dX8_back_122 : decode cX8_back 122 = .ok (.invokevirtual 230, 3) := by decide +kernel
theorem dX8_back_125 : decode cX8_back 125 = .ok (.invokevirtual 215, 3) := by decide +kernel
theorem dX8_back_128 : decode cX8_back 128 = .ok (.ifCond .eq 10, 3) := by decide +kernel
theorem dX8_back_131 : decode cX8_back 131 = .ok (.aload_n 0, 1) := by decide +kernel
theorem dX8_back_132 : decode cX8_back 132 = .ok (.getfield 224, 3) := by decide +kernel
theorem dX8_back_135 : decode cX8_back 135 = .ok (.goto 4, 3) := by decide +kernel
theorem dX8_back_138 : decode cX8_back 138 = .ok (.iconst (-1), 1) := by decide +kernel
theorem dX8_back_139 : decode cX8_back 139 = .ok (.ireturn, 1) := by decide +kernel
theorem dX8_keep_0 : decode cX8_keep 0 = .ok (.iload_n 1, 1) := by decide +kernel
theorem dX8_keep_1 : decode cX8_keep 1 = .ok (.iconst 0, 1) := by decide +kernel
theorem dX8_keep_2 : decode cX8_keep 2 = .ok (.bipush 7, 2) := by decide +kernel
theorem dX8_keep_4 : decode cX8_keep 4 = .ok (.invokestatic 70, 3) := by decide +kernel
theorem dX8_keep_7 : decode cX8_keep 7 = .ok (.ifCond .ne 5, 3) := by decide +kernel
theorem dX8_keep_10 : decode cX8_keep 10 = .ok (.iconst 0, 1) := by decide +kernel
theorem dX8_keep_11 : decode cX8_keep 11 = .ok (.ireturn, 1) := by decide +kernel
theorem dX8_keep_12 : decode cX8_keep 12 = .ok (.aload_n 0, 1) := by decide +kernel
theorem dX8_keep_13 : decode cX8_keep 13 = .ok (.iconst 0, 1) := by decide +kernel
theorem dX8_keep_14 : decode cX8_keep 14 = .ok (.iconst 1, 1) := by decide +kernel
theorem dX8_keep_15 : decode cX8_keep 15 = .ok (.iload_n 1, 1) := by decide +kernel
theorem dX8_keep_16 : decode cX8_keep 16 = .ok (.iadd, 1) := by decide +kernel
theorem dX8_keep_17 : decode cX8_keep 17 = .ok (.invokevirtual 128, 3) := by decide +kernel
theorem dX8_keep_20 : decode cX8_keep 20 = .ok (.iconst 1, 1) := by decide +kernel
theorem dX8_keep_21 : decode cX8_keep 21 = .ok (.ireturn, 1) := by decide +kernel
theorem dX8_isSame_0 : decode cX8_isSame 0 = .ok (.aload_n 0, 1) := by decide +kernel
theorem dX8_isSame_1 : decode cX8_isSame 1 = .ok (.getfield 7, 3) := by decide +kernel
theorem dX8_isSame_4 : decode cX8_isSame 4 = .ok (.iload_n 1, 1) := by decide +kernel
theorem dX8_isSame_5 : decode cX8_isSame 5 = .ok (.iaload, 1) := by decide +kernel
theorem dX8_isSame_6 : decode cX8_isSame 6 = .ok (.aload_n 0, 1) := by decide +kernel
theorem dX8_isSame_7 : decode cX8_isSame 7 = .ok (.getfield 7, 3) := by decide +kernel
theorem dX8_isSame_10 : decode cX8_isSame 10 = .ok (.iload_n 2, 1) := by decide +kernel
theorem dX8_isSame_11 : decode cX8_isSame 11 = .ok (.iaload, 1) := by decide +kernel
theorem dX8_isSame_12 : decode cX8_isSame 12 = .ok (.if_icmp .ne 18, 3) := by decide +kernel
theorem dX8_isSame_15 : decode cX8_isSame 15 = .ok (.aload_n 0, 1) := by decide +kernel
theorem dX8_isSame_16 : decode cX8_isSame 16 = .ok (.getfield 13, 3) := by decide +kernel
theorem dX8_isSame_19 : decode cX8_isSame 19 = .ok (.iload_n 1, 1) := by decide +kernel
theorem dX8_isSame_20 : decode cX8_isSame 20 = .ok (.iaload, 1) := by decide +kernel
theorem dX8_isSame_21 : decode cX8_isSame 21 = .ok (.aload_n 0, 1) := by decide +kernel
theorem dX8_isSame_22 : decode cX8_isSame 22 = .ok (.getfield 13, 3) := by decide +kernel
theorem dX8_isSame_25 : decode cX8_isSame 25 = .ok (.iload_n 2, 1) := by decide +kernel
theorem dX8_isSame_26 : decode cX8_isSame 26 = .ok (.iaload, 1) := by decide +kernel
theorem dX8_isSame_27 : decode cX8_isSame 27 = .ok (.if_icmp .eq 5, 3) := by decide +kernel
theorem dX8_isSame_30 : decode cX8_isSame 30 = .ok (.iconst 0, 1) := by decide +kernel
theorem dX8_isSame_31 : decode cX8_isSame 31 = .ok (.ireturn, 1) := by decide +kernel
theorem dX8_isSame_32 : decode cX8_isSame 32 = .ok (.iconst 0, 1) := by decide +kernel
theorem dX8_isSame_33 : decode cX8_isSame 33 = .ok (.istore_n 3, 1) := by decide +kernel
theorem dX8_isSame_34 : decode cX8_isSame 34 = .ok (.iload_n 3, 1) := by decide +kernel
theorem dX8_isSame_35 : decode cX8_isSame 35 = .ok (.sipush 289, 3) := by decide +kernel
theorem dX8_isSame_38 : decode cX8_isSame 38 = .ok (.if_icmp .ge 38, 3) := by decide +kernel
theorem dX8_isSame_41 : decode cX8_isSame 41 = .ok (.aload_n 0, 1) := by decide +kernel
theorem dX8_isSame_42 : decode cX8_isSame 42 = .ok (.getfield 16, 3) := by decide +kernel
theorem dX8_isSame_45 : decode cX8_isSame 45 = .ok (.sipush 289, 3) := by decide +kernel
theorem dX8_isSame_48 : decode cX8_isSame 48 = .ok (.iload_n 1, 1) := by decide +kernel
theorem dX8_isSame_49 : decode cX8_isSame 49 = .ok (.imul, 1) := by decide +kernel
theorem dX8_isSame_50 : decode cX8_isSame 50 = .ok (.iload_n 3, 1) := by decide +kernel
theorem dX8_isSame_51 : decode cX8_isSame 51 = .ok (.iadd, 1) := by decide +kernel
theorem dX8_isSame_52 : decode cX8_isSame 52 = .ok (.baload, 1) := by decide +kernel
theorem dX8_isSame_53 : decode cX8_isSame 53 = .ok (.aload_n 0, 1) := by decide +kernel
theorem dX8_isSame_54 : decode cX8_isSame 54 = .ok (.getfield 16, 3) := by decide +kernel
theorem dX8_isSame_57 : decode cX8_isSame 57 = .ok (.sipush 289, 3) := by decide +kernel
theorem dX8_isSame_60 : decode cX8_isSame 60 = .ok (.iload_n 2, 1) := by decide +kernel
theorem dX8_isSame_61 : decode cX8_isSame 61 = .ok (.imul, 1) := by decide +kernel
theorem dX8_isSame_62 : decode cX8_isSame 62 = .ok (.iload_n 3, 1) := by decide +kernel
theorem dX8_isSame_63 : decode cX8_isSame 63 = .ok (.iadd, 1) := by decide +kernel
theorem dX8_isSame_64 : decode cX8_isSame 64 = .ok (.baload, 1) := by decide +kernel
theorem dX8_isSame_65 : decode cX8_isSame 65 = .ok (.if_icmp .eq 5, 3) := by decide +kernel
theorem dX8_isSame_68 : decode cX8_isSame 68 = .ok (.iconst 0, 1) := by decide +kernel
theorem dX8_isSame_69 : decode cX8_isSame 69 = .ok (.ireturn, 1) := by decide +kernel
theorem dX8_isSame_70 : decode cX8_isSame 70 = .ok (.iinc 3 1, 3) := by decide +kernel
theorem dX8_isSame_73 : decode cX8_isSame 73 = .ok (.goto (-39), 3) := by decide +kernel
theorem dX8_isSame_76 : decode cX8_isSame 76 = .ok (.iconst 1, 1) := by decide +kernel
theorem dX8_isSame_77 : decode cX8_isSame 77 = .ok (.ireturn, 1) := by decide +kernel
theorem dX8_ways_0 : decode cX8_ways 0 = .ok (.iconst 0, 1) := by decide +kernel
theorem dX8_ways_1 : decode cX8_ways 1 = .ok (.istore_n 2, 1) := by decide +kernel
theorem dX8_ways_2 : decode cX8_ways 2 = .ok (.aload_n 0, 1) := by decide +kernel
theorem dX8_ways_3 : decode cX8_ways 3 = .ok (.iconst 0, 1) := by decide +kernel
theorem dX8_ways_4 : decode cX8_ways 4 = .ok (.bipush 18, 2) := by decide +kernel
theorem dX8_ways_6 : decode cX8_ways 6 = .ok (.invokevirtual 128, 3) := by decide +kernel
theorem dX8_ways_9 : decode cX8_ways 9 = .ok (.iconst 0, 1) := by decide +kernel
theorem dX8_ways_10 : decode cX8_ways 10 = .ok (.istore_n 3, 1) := by decide +kernel
theorem dX8_ways_11 : decode cX8_ways 11 = .ok (.iload_n 3, 1) := by decide +kernel
theorem dX8_ways_12 : decode cX8_ways 12 = .ok (.iconst 4, 1) := by decide +kernel
theorem dX8_ways_13 : decode cX8_ways 13 = .ok (.if_icmp .ge 63, 3) := by decide +kernel
theorem dX8_ways_16 : decode cX8_ways 16 = .ok (.iload_n 2, 1) := by decide +kernel
theorem dX8_ways_17 : decode cX8_ways 17 = .ok (.aload_n 0, 1) := by decide +kernel
theorem dX8_ways_18 : decode cX8_ways 18 = .ok (.bipush 18, 2) := by decide +kernel
theorem dX8_ways_20 : decode cX8_ways 20 = .ok (.iload_n 1, 1) := by decide +kernel
theorem dX8_ways_21 : decode cX8_ways 21 = .ok (.invokevirtual 233, 3) := by decide +kernel
theorem dX8_ways_24 : decode cX8_ways 24 = .ok (.ifCond .eq 7, 3) := by decide +kernel
theorem dX8_ways_27 : decode cX8_ways 27 = .ok (.iconst 1, 1) := by decide +kernel
theorem dX8_ways_28 : decode cX8_ways 28 = .ok (.goto 4, 3) := by decide +kernel
theorem dX8_ways_31 : decode cX8_ways 31 = .ok (.iconst 0, 1) := by decide +kernel
theorem dX8_ways_32 : decode cX8_ways 32 = .ok (.iadd, 1) := by decide +kernel
theorem dX8_ways_33 : decode cX8_ways 33 = .ok (.istore_n 2, 1) := by decide +kernel
theorem dX8_ways_34 : decode cX8_ways 34 = .ok (.aload_n 0, 1) := by decide +kernel
theorem dX8_ways_35 : decode cX8_ways 35 = .ok (.bipush 18, 2) := by decide +kernel
theorem dX8_ways_37 : decode cX8_ways 37 = .ok (.invokevirtual 193, 3) := by decide +kernel
theorem dX8_ways_40 : decode cX8_ways 40 = .ok (.iload_n 2, 1) := by decide +kernel
theorem dX8_ways_41 : decode cX8_ways 41 = .ok (.aload_n 0, 1) := by decide +kernel
theorem dX8_ways_42 : decode cX8_ways 42 = .ok (.bipush 18, 2) := by decide +kernel
theorem dX8_ways_44 : decode cX8_ways 44 = .ok (.iload_n 1, 1) := by decide +kernel
theorem dX8_ways_45 : decode cX8_ways 45 = .ok (.invokevirtual 233, 3) := by decide +kernel
theorem dX8_ways_48 : decode cX8_ways 48 = .ok (.ifCond .eq 7, 3) := by decide +kernel
theorem dX8_ways_51 : decode cX8_ways 51 = .ok (.iconst 1, 1) := by decide +kernel
theorem dX8_ways_52 : decode cX8_ways 52 = .ok (.goto 4, 3) := by decide +kernel
theorem dX8_ways_55 : decode cX8_ways 55 = .ok (.iconst 0, 1) := by decide +kernel
theorem dX8_ways_56 : decode cX8_ways 56 = .ok (.iadd, 1) := by decide +kernel
theorem dX8_ways_57 : decode cX8_ways 57 = .ok (.istore_n 2, 1) := by decide +kernel
theorem dX8_ways_58 : decode cX8_ways 58 = .ok (.aload_n 0, 1) := by decide +kernel
theorem dX8_ways_59 : decode cX8_ways 59 = .ok (.bipush 18, 2) := by decide +kernel
theorem dX8_ways_61 : decode cX8_ways 61 = .ok (.invokevirtual 193, 3) := by decide +kernel
theorem dX8_ways_64 : decode cX8_ways 64 = .ok (.aload_n 0, 1) := by decide +kernel
theorem dX8_ways_65 : decode cX8_ways 65 = .ok (.bipush 18, 2) := by decide +kernel
theorem dX8_ways_67 : decode cX8_ways 67 = .ok (.invokevirtual 190, 3) := by decide +kernel
theorem dX8_ways_70 : decode cX8_ways 70 = .ok (.iinc 3 1, 3) := by decide +kernel
theorem dX8_ways_73 : decode cX8_ways 73 = .ok (.goto (-62), 3) := by decide +kernel
theorem dX8_ways_76 : decode cX8_ways 76 = .ok (.iload_n 2, 1) := by decide +kernel
theorem dX8_ways_77 : decode cX8_ways 77 = .ok (.ireturn, 1) := by decide +kernel
theorem dX8_like_0 : decode cX8_like 0 = .ok (.iload_n 1, 1) := by decide +kernel
theorem dX8_like_1 : decode cX8_like 1 = .ok (.iconst 0, 1) := by decide +kernel
theorem dX8_like_2 : decode cX8_like 2 = .ok (.bipush 7, 2) := by decide +kernel
theorem dX8_like_4 : decode cX8_like 4 = .ok (.invokestatic 70, 3) := by decide +kernel
theorem dX8_like_7 : decode cX8_like 7 = .ok (.ifCond .eq 23, 3) := by decide +kernel
theorem dX8_like_10 : decode cX8_like 10 = .ok (.aload_n 0, 1) := by decide +kernel
theorem dX8_like_11 : decode cX8_like 11 = .ok (.getfield 7, 3) := by decide +kernel
theorem dX8_like_14 : decode cX8_like 14 = .ok (.iconst 1, 1) := by decide +kernel
theorem dX8_like_15 : decode cX8_like 15 = .ok (.iload_n 1, 1) := by decide +kernel
theorem dX8_like_16 : decode cX8_like 16 = .ok (.iadd, 1) := by decide +kernel
theorem dX8_like_17 : decode cX8_like 17 = .ok (.iaload, 1) := by decide +kernel
theorem dX8_like_18 : decode cX8_like 18 = .ok (.ifCond .eq 12, 3) := by decide +kernel
theorem dX8_like_21 : decode cX8_like 21 = .ok (.iload_n 2, 1) := by decide +kernel
theorem dX8_like_22 : decode cX8_like 22 = .ok (.iconst 0, 1) := by decide +kernel
theorem dX8_like_23 : decode cX8_like 23 = .ok (.iconst 1, 1) := by decide +kernel
theorem dX8_like_24 : decode cX8_like 24 = .ok (.invokestatic 70, 3) := by decide +kernel
theorem dX8_like_27 : decode cX8_like 27 = .ok (.ifCond .ne 5, 3) := by decide +kernel
theorem dX8_like_30 : decode cX8_like 30 = .ok (.iconst (-1), 1) := by decide +kernel
theorem dX8_like_31 : decode cX8_like 31 = .ok (.ireturn, 1) := by decide +kernel
theorem dX8_like_32 : decode cX8_like 32 = .ok (.iload_n 2, 1) := by decide +kernel
theorem dX8_like_33 : decode cX8_like 33 = .ok (.ifCond .ne 17, 3) := by decide +kernel
theorem dX8_like_36 : decode cX8_like 36 = .ok (.aload_n 0, 1) := by decide +kernel
theorem dX8_like_37 : decode cX8_like 37 = .ok (.iconst 0, 1) := by decide +kernel
theorem dX8_like_38 : decode cX8_like 38 = .ok (.iconst 1, 1) := by decide +kernel
theorem dX8_like_39 : decode cX8_like 39 = .ok (.iload_n 1, 1) := by decide +kernel
theorem dX8_like_40 : decode cX8_like 40 = .ok (.iadd, 1) := by decide +kernel
theorem dX8_like_41 : decode cX8_like 41 = .ok (.invokevirtual 233, 3) := by decide +kernel
theorem dX8_like_44 : decode cX8_like 44 = .ok (.ifCond .eq 20, 3) := by decide +kernel
theorem dX8_like_47 : decode cX8_like 47 = .ok (.goto 13, 3) := by decide +kernel
theorem dX8_like_50 : decode cX8_like 50 = .ok (.aload_n 0, 1) := by decide +kernel
theorem dX8_like_51 : decode cX8_like 51 = .ok (.iconst 1, 1) := by decide +kernel
theorem dX8_like_52 : decode cX8_like 52 = .ok (.iload_n 1, 1) := by decide +kernel
theorem dX8_like_53 : decode cX8_like 53 = .ok (.iadd, 1) := by decide +kernel
theorem dX8_like_54 : decode cX8_like 54 = .ok (.invokevirtual 236, 3) := by decide +kernel
theorem dX8_like_57 : decode cX8_like 57 = .ok (.ifCond .le 7, 3) := by decide +kernel
theorem dX8_like_60 : decode cX8_like 60 = .ok (.iconst 1, 1) := by decide +kernel
theorem dX8_like_61 : decode cX8_like 61 = .ok (.goto 4, 3) := by decide +kernel
theorem dX8_like_64 : decode cX8_like 64 = .ok (.iconst 0, 1) := by decide +kernel
theorem dX8_like_65 : decode cX8_like 65 = .ok (.ireturn, 1) := by decide +kernel
theorem dX8_alike_0 : decode cX8_alike 0 = .ok (.aload_n 0, 1) := by decide +kernel
theorem dX8_alike_1 : decode cX8_alike 1 = .ok (.iconst 0, 1) := by decide +kernel
theorem dX8_alike_2 : decode cX8_alike 2 = .ok (.invokevirtual 236, 3) := by decide +kernel
theorem dX8_alike_5 : decode cX8_alike 5 = .ok (.ireturn, 1) := by decide +kernel
theorem dX8_about_0 : decode cX8_about 0 = .ok (.iconst 0, 1) := by decide +kernel
theorem dX8_about_1 : decode cX8_about 1 = .ok (.istore_n 2, 1) := by decide +kernel
theorem dX8_about_2 : decode cX8_about 2 = .ok (.iconst 0, 1) := by decide +kernel
theorem dX8_about_3 : decode cX8_about 3 = .ok (.istore_n 3, 1) := by decide +kernel
theorem dX8_about_4 : decode cX8_about 4 = .ok (.iload_n 3, 1) := by decide +kernel
theorem dX8_about_5 : decode cX8_about 5 = .ok (.bipush 17, 2) := by decide +kernel
theorem dX8_about_7 : decode cX8_about 7 = .ok (.if_icmp .ge 107, 3) := by decide +kernel
theorem dX8_about_10 : decode cX8_about 10 = .ok (.iload_n 1, 1) := by decide +kernel
theorem dX8_about_11 : decode cX8_about 11 = .ok (.iconst 1, 1) := by decide +kernel
theorem dX8_about_12 : decode cX8_about 12 = .ok (.if_icmp .le 102, 3) := by decide +kernel
theorem dX8_about_15 : decode cX8_about 15 = .ok (.iload_n 1, 1) := by decide +kernel
theorem dX8_about_16 : decode cX8_about 16 = .ok (.bipush 6, 2) := by decide +kernel
theorem dX8_about_18 : decode cX8_about 18 = .ok (.if_icmp .ge 96, 3) := by decide +kernel
theorem dX8_about_21 : decode cX8_about 21 = .ok (.iconst 0, 1) := by decide +kernel
theorem dX8_about_22 : decode cX8_about 22 = .ok (.istore 4, 2) := by decide +kernel
theorem dX8_about_24 : decode cX8_about 24 = .ok (.iload 4, 2) := by decide +kernel
theorem dX8_about_26 : decode cX8_about 26 = .ok (.bipush 17, 2) := by decide +kernel
theorem dX8_about_28 : decode cX8_about 28 = .ok (.if_icmp .ge 80, 3) := by decide +kernel
theorem dX8_about_31 : decode cX8_about 31 = .ok (.aload_n 0, 1) := by decide +kernel
theorem dX8_about_32 : decode cX8_about 32 = .ok (.getfield 16, 3) := by decide +kernel
theorem dX8_about_35 : decode cX8_about 35 = .ok (.iconst 0, 1) := by decide +kernel
theorem dX8_about_36 : decode cX8_about 36 = .ok (.iload 4, 2) := by decide +kernel
theorem dX8_about_38 : decode cX8_about 38 = .ok (.iload_n 3, 1) := by decide +kernel
theorem dX8_about_39 : decode cX8_about 39 = .ok (.invokestatic 77, 3) := by decide +kernel
theorem dX8_about_42 : decode cX8_about 42 = .ok (.baload, 1) := by decide +kernel
theorem dX8_about_43 : decode cX8_about 43 = .ok (.istore 5, 2) := by decide +kernel
theorem dX8_about_45 : decode cX8_about 45 = .ok (.iload_n 2, 1) := by decide +kernel
theorem dX8_about_46 : decode cX8_about 46 = .ok (.aload_n 0, 1) := by decide +kernel
theorem dX8_about_47 : decode cX8_about 47 = .ok (.iconst 0, 1) := by decide +kernel
theorem dX8_about_48 : decode cX8_about 48 = .ok (.iload 4, 2) := by decide +kernel
theorem dX8_about_50 : decode cX8_about 50 = .ok (.iload_n 3, 1) := by decide +kernel
theorem dX8_about_51 : decode cX8_about 51 = .ok (.invokevirtual 74, 3) := by decide +kernel
theorem dX8_about_54 : decode cX8_about 54 = .ok (.ifCond .eq 45, 3) := by decide +kernel
theorem dX8_about_57 : decode cX8_about 57 = .ok (.iload_n 1, 1) := by decide +kernel
theorem dX8_about_58 : decode cX8_about 58 = .ok (.iconst 2, 1) := by decide +kernel
theorem dX8_about_59 : decode cX8_about 59 = .ok (.if_icmp .eq 36, 3) := by decide +kernel
theorem dX8_about_62 : decode cX8_about 62 = .ok (.iload_n 1, 1) := by decide +kernel
theorem dX8_about_63 : decode cX8_about 63 = .ok (.iconst 5, 1) := by decide +kernel
theorem dX8_about_64 : decode cX8_about 64 = .ok (.if_icmp .ne 18, 3) := by decide +kernel
theorem dX8_about_67 : decode cX8_about 67 = .ok (.aload_n 0, 1) := by decide +kernel
theorem dX8_about_68 : decode cX8_about 68 = .ok (.getfield 20, 3) := by decide +kernel
theorem dX8_about_71 : decode cX8_about 71 = .ok (.iconst 0, 1) := by decide +kernel
theorem dX8_about_72 : decode cX8_about 72 = .ok (.iload 4, 2) := by decide +kernel
theorem dX8_about_74 : decode cX8_about 74 = .ok (.iload_n 3, 1) := by decide +kernel
theorem dX8_about_75 : decode cX8_about 75 = .ok (.invokestatic 77, 3) := by decide +kernel
theorem dX8_about_78 : decode cX8_about 78 = .ok (.baload, 1) := by decide +kernel
theorem dX8_about_79 : decode cX8_about 79 = .ok (.ifCond .ne 16, 3) := by decide +kernel
theorem dX8_about_82 : decode cX8_about 82 = .ok (.iload 5, 2) := by decide +kernel
theorem dX8_about_84 : decode cX8_about 84 = .ok (.iload_n 1, 1) := by decide +kernel
theorem dX8_about_85 : decode cX8_about 85 = .ok (.iconst 2, 1) := by decide +kernel
theorem dX8_about_86 : decode cX8_about 86 = .ok (.isub, 1) := by decide +kernel
theorem dX8_about_87 : decode cX8_about 87 = .ok (.if_icmp .ne 12, 3) := by decide +kernel
theorem dX8_about_90 : decode cX8_about 90 = .ok (.iload_n 1, 1) := by decide +kernel
theorem dX8_about_91 : decode cX8_about 91 = .ok (.iconst 5, 1) := by decide +kernel
theorem dX8_about_92 : decode cX8_about 92 = .ok (.if_icmp .ge 7, 3) := by decide +kernel
theorem dX8_about_95 : decode cX8_about 95 = .ok (.iconst 1, 1) := by decide +kernel
theorem dX8_about_96 : decode cX8_about 96 = .ok (.goto 4, 3) := by decide +kernel
theorem dX8_about_99 : decode cX8_about 99 = .ok (.iconst 0, 1) := by decide +kernel
theorem dX8_about_100 : decode cX8_about 100 = .ok (.iadd, 1) := by decide +kernel
theorem dX8_about_101 : decode cX8_about 101 = .ok (.istore_n 2, 1) := by decide +kernel
theorem dX8_about_102 : decode cX8_about 102 = .ok (.iinc 4 1, 3) := by decide +kernel
theorem dX8_about_105 : decode cX8_about 105 = .ok (.goto (-81), 3) := by decide +kernel
theorem dX8_about_108 : decode cX8_about 108 = .ok (.iinc 3 1, 3) := by decide +kernel
theorem dX8_about_111 : decode cX8_about 111 = .ok (.goto (-107), 3) := by decide +kernel
theorem dX8_about_114 : decode cX8_about 114 = .ok (.iconst 1, 1) := by decide +kernel
theorem dX8_about_115 : decode cX8_about 115 = .ok (.istore_n 3, 1) := by decide +kernel
theorem dX8_about_116 : decode cX8_about 116 = .ok (.iload_n 3, 1) := by decide +kernel
theorem dX8_about_117 : decode cX8_about 117 = .ok (.bipush 8, 2) := by decide +kernel
theorem dX8_about_119 : decode cX8_about 119 = .ok (.if_icmp .gt 32, 3) := by decide +kernel
theorem dX8_about_122 : decode cX8_about 122 = .ok (.iload_n 1, 1) := by decide +kernel
theorem dX8_about_123 : decode cX8_about 123 = .ok (.bipush 6, 2) := by decide +kernel
theorem dX8_about_125 : decode cX8_about 125 = .ok (.if_icmp .ne 26, 3) := by decide +kernel
theorem dX8_about_128 : decode cX8_about 128 = .ok (.iload_n 2, 1) := by decide +kernel
theorem dX8_about_129 : decode cX8_about 129 = .ok (.aload_n 0, 1) := by decide +kernel
theorem dX8_about_130 : decode cX8_about 130 = .ok (.getfield 7, 3) := by decide +kernel
theorem dX8_about_133 : decode cX8_about 133 = .ok (.iload_n 3, 1) := by decide +kernel
theorem dX8_about_134 : decode cX8_about 134 = .ok (.iaload, 1) := by decide +kernel
theorem dX8_about_135 : decode cX8_about 135 = .ok (.ifCond .le 7, 3) := by decide +kernel
theorem dX8_about_138 : decode cX8_about 138 = .ok (.iconst 1, 1) := by decide +kernel
theorem dX8_about_139 : decode cX8_about 139 = .ok (.goto 4, 3) := by decide +kernel
theorem dX8_about_142 : decode cX8_about 142 = .ok (.iconst 0, 1) := by decide +kernel
theorem dX8_about_143 : decode cX8_about 143 = .ok (.iadd, 1) := by decide +kernel
theorem dX8_about_144 : decode cX8_about 144 = .ok (.istore_n 2, 1) := by decide +kernel
theorem dX8_about_145 : decode cX8_about 145 = .ok (.iinc 3 1, 3) := by decide +kernel
theorem dX8_about_148 : decode cX8_about 148 = .ok (.goto (-32), 3) := by decide +kernel
theorem dX8_about_151 : decode cX8_about 151 = .ok (.iload_n 1, 1) := by decide +kernel
theorem dX8_about_152 : decode cX8_about 152 = .ok (.ifCond .ne 12, 3) := by decide +kernel
theorem dX8_about_155 : decode cX8_about 155 = .ok (.aload_n 0, 1) := by decide +kernel
theorem dX8_about_156 : decode cX8_about 156 = .ok (.getfield 7, 3) := by decide +kernel
theorem dX8_about_159 : decode cX8_about 159 = .ok (.iconst 0, 1) := by decide +kernel
theorem dX8_about_160 : decode cX8_about 160 = .ok (.iaload, 1) := by decide +kernel
theorem dX8_about_161 : decode cX8_about 161 = .ok (.goto 58, 3) := by decide +kernel
theorem dX8_about_164 : decode cX8_about 164 = .ok (.iload_n 1, 1) := by decide +kernel
theorem dX8_about_165 : decode cX8_about 165 = .ok (.iconst 1, 1) := by decide +kernel
theorem dX8_about_166 : decode cX8_about 166 = .ok (.if_icmp .ne 12, 3) := by decide +kernel
theorem dX8_about_169 : decode cX8_about 169 = .ok (.aload_n 0, 1) := by decide +kernel
theorem dX8_about_170 : decode cX8_about 170 = .ok (.getfield 13, 3) := by decide +kernel
theorem dX8_about_173 : decode cX8_about 173 = .ok (.iconst 0, 1) := by decide +kernel
theorem dX8_about_174 : decode cX8_about 174 = .ok (.iaload, 1) := by decide +kernel
theorem dX8_about_175 : decode cX8_about 175 = .ok (.goto 44, 3) := by decide +kernel
theorem dX8_about_178 : decode cX8_about 178 = .ok (.iload_n 1, 1) := by decide +kernel
theorem dX8_about_179 : decode cX8_about 179 = .ok (.iconst 2, 1) := by decide +kernel
theorem dX8_about_180 : decode cX8_about 180 = .ok (.bipush 6, 2) := by decide +kernel
theorem dX8_about_182 : decode cX8_about 182 = .ok (.invokestatic 70, 3) := by decide +kernel
theorem dX8_about_185 : decode cX8_about 185 = .ok (.ifCond .eq 7, 3) := by decide +kernel
theorem dX8_about_188 : decode cX8_about 188 = .ok (.iload_n 2, 1) := by decide +kernel
theorem dX8_about_189 : decode cX8_about 189 = .ok (.goto 30, 3) := by decide +kernel
theorem dX8_about_192 : decode cX8_about 192 = .ok (.iload_n 1, 1) := by decide +kernel
theorem dX8_about_193 : decode cX8_about 193 = .ok (.bipush 7, 2) := by decide +kernel
theorem dX8_about_195 : decode cX8_about 195 = .ok (.if_icmp .ne 10, 3) := by decide +kernel
theorem dX8_about_198 : decode cX8_about 198 = .ok (.aload_n 0, 1) := by decide +kernel
theorem dX8_about_199 : decode cX8_about 199 = .ok (.getfield 121, 3) := by decide +kernel
theorem dX8_about_202 : decode cX8_about 202 = .ok (.goto 17, 3) := by decide +kernel
theorem dX8_about_205 : decode cX8_about 205 = .ok (.iload_n 1, 1) := by decide +kernel
theorem dX8_about_206 : decode cX8_about 206 = .ok (.bipush 8, 2) := by decide +kernel
theorem dX8_about_208 : decode cX8_about 208 = .ok (.if_icmp .ne 10, 3) := by decide +kernel
theorem dX8_about_211 : decode cX8_about 211 = .ok (.aload_n 0, 1) := by decide +kernel
theorem dX8_about_212 : decode cX8_about 212 = .ok (.invokevirtual 81, 3) := by decide +kernel
theorem dX8_about_215 : decode cX8_about 215 = .ok (.goto 4, 3) := by decide +kernel
theorem dX8_about_218 : decode cX8_about 218 = .ok (.iconst (-1), 1) := by decide +kernel
theorem dX8_about_219 : decode cX8_about 219 = .ok (.ireturn, 1) := by decide +kernel
