theorem d_Law_cell_0 : decode b_Law_cell 0 = .ok (.iload_n 1, 1) := by decide +kernel
theorem d_Law_cell_1 : decode b_Law_cell 1 = .ok (.aload_n 0, 1) := by decide +kernel
theorem d_Law_cell_2 : decode b_Law_cell 2 = .ok (.arraylength, 1) := by decide +kernel
theorem d_Law_cell_3 : decode b_Law_cell 3 = .ok (.if_icmp .ge 9, 3) := by decide +kernel
theorem d_Law_cell_6 : decode b_Law_cell 6 = .ok (.aload_n 0, 1) := by decide +kernel
theorem d_Law_cell_7 : decode b_Law_cell 7 = .ok (.iload_n 1, 1) := by decide +kernel
theorem d_Law_cell_8 : decode b_Law_cell 8 = .ok (.iaload, 1) := by decide +kernel
theorem d_Law_cell_9 : decode b_Law_cell 9 = .ok (.goto 4, 3) := by decide +kernel
theorem d_Law_cell_12 : decode b_Law_cell 12 = .ok (.iconst 0, 1) := by decide +kernel
theorem d_Law_cell_13 : decode b_Law_cell 13 = .ok (.ireturn, 1) := by decide +kernel
theorem d_Law_code_0 : decode b_Law_code 0 = .ok (.aload_n 0, 1) := by decide +kernel
theorem d_Law_code_1 : decode b_Law_code 1 = .ok (.iload_n 1, 1) := by decide +kernel
theorem d_Law_code_2 : decode b_Law_code 2 = .ok (.iload_n 2, 1) := by decide +kernel
theorem d_Law_code_3 : decode b_Law_code 3 = .ok (.iload_n 3, 1) := by decide +kernel
theorem d_Law_code_4 : decode b_Law_code 4 = .ok (.invokevirtual 7, 3) := by decide +kernel
theorem d_Law_code_7 : decode b_Law_code 7 = .ok (.goto 7, 3) := by decide +kernel
theorem d_Law_code_10 : decode b_Law_code 10 = .ok (.astore 4, 2) := by decide +kernel
theorem d_Law_code_12 : decode b_Law_code 12 = .ok (.iconst 1, 1) := by decide +kernel
theorem d_Law_code_13 : decode b_Law_code 13 = .ok (.ireturn, 1) := by decide +kernel
theorem d_Law_code_14 : decode b_Law_code 14 = .ok (.iconst 0, 1) := by decide +kernel
theorem d_Law_code_15 : decode b_Law_code 15 = .ok (.ireturn, 1) := by decide +kernel
theorem d_Law_step_0 : decode b_Law_step 0 = .ok (.aload_n 2, 1) := by decide +kernel
theorem d_Law_step_1 : decode b_Law_step 1 = .ok (.iconst 0, 1) := by decide +kernel
theorem d_Law_step_2 : decode b_Law_step 2 = .ok (.aload_n 0, 1) := by decide +kernel
theorem d_Law_step_3 : decode b_Law_step 3 = .ok (.iload_n 1, 1) := by decide +kernel
theorem d_Law_step_4 : decode b_Law_step 4 = .ok (.invokevirtual 15, 3) := by decide +kernel
theorem d_Law_step_7 : decode b_Law_step 7 = .ok (.i2l, 1) := by decide +kernel
theorem d_Law_step_8 : decode b_Law_step 8 = .ok (.lastore, 1) := by decide +kernel
theorem d_Law_step_9 : decode b_Law_step 9 = .ok (.goto 6, 3) := by decide +kernel
theorem d_Law_step_12 : decode b_Law_step 12 = .ok (.astore_n 3, 1) := by decide +kernel
theorem d_Law_step_13 : decode b_Law_step 13 = .ok (.iconst 1, 1) := by decide +kernel
theorem d_Law_step_14 : decode b_Law_step 14 = .ok (.ireturn, 1) := by decide +kernel
theorem d_Law_step_15 : decode b_Law_step 15 = .ok (.iconst 0, 1) := by decide +kernel
theorem d_Law_step_16 : decode b_Law_step 16 = .ok (.ireturn, 1) := by decide +kernel
theorem d_Law_run_0 : decode b_Law_run 0 = .ok (.aload_n 3, 1) := by decide +kernel
theorem d_Law_run_1 : decode b_Law_run 1 = .ok (.iconst 0, 1) := by decide +kernel
theorem d_Law_run_2 : decode b_Law_run 2 = .ok (.aload_n 0, 1) := by decide +kernel
theorem d_Law_run_3 : decode b_Law_run 3 = .ok (.iload_n 1, 1) := by decide +kernel
theorem d_Law_run_4 : decode b_Law_run 4 = .ok (.iload_n 2, 1) := by decide +kernel
theorem d_Law_run_5 : decode b_Law_run 5 = .ok (.invokevirtual 19, 3) := by decide +kernel
theorem d_Law_run_8 : decode b_Law_run 8 = .ok (.i2l, 1) := by decide +kernel
theorem d_Law_run_9 : decode b_Law_run 9 = .ok (.lastore, 1) := by decide +kernel
theorem d_Law_run_10 : decode b_Law_run 10 = .ok (.goto 7, 3) := by decide +kernel
theorem d_Law_run_13 : decode b_Law_run 13 = .ok (.astore 4, 2) := by decide +kernel
theorem d_Law_run_15 : decode b_Law_run 15 = .ok (.iconst 1, 1) := by decide +kernel
theorem d_Law_run_16 : decode b_Law_run 16 = .ok (.ireturn, 1) := by decide +kernel
theorem d_Law_run_17 : decode b_Law_run 17 = .ok (.iconst 0, 1) := by decide +kernel
theorem d_Law_run_18 : decode b_Law_run 18 = .ok (.ireturn, 1) := by decide +kernel
theorem d_Law_jump_0 : decode b_Law_jump 0 = .ok (.aload_n 0, 1) := by decide +kernel
theorem d_Law_jump_1 : decode b_Law_jump 1 = .ok (.iload_n 1, 1) := by decide +kernel
theorem d_Law_jump_2 : decode b_Law_jump 2 = .ok (.iload_n 2, 1) := by decide +kernel
theorem d_Law_jump_3 : decode b_Law_jump 3 = .ok (.invokevirtual 25, 3) := by decide +kernel
theorem d_Law_jump_6 : decode b_Law_jump 6 = .ok (.goto 9, 3) := by decide +kernel
theorem d_Law_jump_9 : decode b_Law_jump 9 = .ok (.astore_n 3, 1) := by decide +kernel
theorem d_Law_jump_10 : decode b_Law_jump 10 = .ok (.iconst 1, 1) := by decide +kernel
theorem d_Law_jump_11 : decode b_Law_jump 11 = .ok (.ireturn, 1) := by decide +kernel
theorem d_Law_jump_12 : decode b_Law_jump 12 = .ok (.astore_n 3, 1) := by decide +kernel
theorem d_Law_jump_13 : decode b_Law_jump 13 = .ok (.iconst 2, 1) := by decide +kernel
theorem d_Law_jump_14 : decode b_Law_jump 14 = .ok (.ireturn, 1) := by decide +kernel
theorem d_Law_jump_15 : decode b_Law_jump 15 = .ok (.iconst 0, 1) := by decide +kernel
theorem d_Law_jump_16 : decode b_Law_jump 16 = .ok (.ireturn, 1) := by decide +kernel
theorem d_Law_register_0 : decode b_Law_register 0 = .ok (.aload_n 3, 1) := by decide +kernel
theorem d_Law_register_1 : decode b_Law_register 1 = .ok (.iconst 0, 1) := by decide +kernel
theorem d_Law_register_2 : decode b_Law_register 2 = .ok (.aload_n 0, 1) := by decide +kernel
theorem d_Law_register_3 : decode b_Law_register 3 = .ok (.iload_n 1, 1) := by decide +kernel
theorem d_Law_register_4 : decode b_Law_register 4 = .ok (.iload_n 2, 1) := by decide +kernel
theorem d_Law_register_5 : decode b_Law_register 5 = .ok (.invokevirtual 31, 3) := by decide +kernel
theorem d_Law_register_8 : decode b_Law_register 8 = .ok (.i2l, 1) := by decide +kernel
theorem d_Law_register_9 : decode b_Law_register 9 = .ok (.lastore, 1) := by decide +kernel
theorem d_Law_register_10 : decode b_Law_register 10 = .ok (.goto 7, 3) := by decide +kernel
theorem d_Law_register_13 : decode b_Law_register 13 = .ok (.astore 4, 2) := by decide +kernel
theorem d_Law_register_15 : decode b_Law_register 15 = .ok (.iconst 1, 1) := by decide +kernel
theorem d_Law_register_16 : decode b_Law_register 16 = .ok (.ireturn, 1) := by decide +kernel
theorem d_Law_register_17 : decode b_Law_register 17 = .ok (.iconst 0, 1) := by decide +kernel
theorem d_Law_register_18 : decode b_Law_register 18 = .ok (.ireturn, 1) := by decide +kernel
theorem d_Law_fate_0 : decode b_Law_fate 0 = .ok (.aload_n 3, 1) := by decide +kernel
theorem d_Law_fate_1 : decode b_Law_fate 1 = .ok (.iconst 0, 1) := by decide +kernel
theorem d_Law_fate_2 : decode b_Law_fate 2 = .ok (.aload_n 0, 1) := by decide +kernel
theorem d_Law_fate_3 : decode b_Law_fate 3 = .ok (.iload_n 1, 1) := by decide +kernel
theorem d_Law_fate_4 : decode b_Law_fate 4 = .ok (.iload_n 2, 1) := by decide +kernel
theorem d_Law_fate_5 : decode b_Law_fate 5 = .ok (.invokevirtual 34, 3) := by decide +kernel
theorem d_Law_fate_8 : decode b_Law_fate 8 = .ok (.i2l, 1) := by decide +kernel
theorem d_Law_fate_9 : decode b_Law_fate 9 = .ok (.lastore, 1) := by decide +kernel
theorem d_Law_fate_10 : decode b_Law_fate 10 = .ok (.goto 7, 3) := by decide +kernel
theorem d_Law_fate_13 : decode b_Law_fate 13 = .ok (.astore 4, 2) := by decide +kernel
theorem d_Law_fate_15 : decode b_Law_fate 15 = .ok (.iconst 1, 1) := by decide +kernel
theorem d_Law_fate_16 : decode b_Law_fate 16 = .ok (.ireturn, 1) := by decide +kernel
theorem d_Law_fate_17 : decode b_Law_fate 17 = .ok (.iconst 0, 1) := by decide +kernel
theorem d_Law_fate_18 : decode b_Law_fate 18 = .ok (.ireturn, 1) := by decide +kernel
theorem d_Law_way_0 : decode b_Law_way 0 = .ok (.aload 5, 2) := by decide +kernel
theorem d_Law_way_2 : decode b_Law_way 2 = .ok (.iconst 0, 1) := by decide +kernel
theorem d_Law_way_3 : decode b_Law_way 3 = .ok (.aload_n 0, 1) := by decide +kernel
theorem d_Law_way_4 : decode b_Law_way 4 = .ok (.iload_n 1, 1) := by decide +kernel
theorem d_Law_way_5 : decode b_Law_way 5 = .ok (.iload_n 2, 1) := by decide +kernel
theorem d_Law_way_6 : decode b_Law_way 6 = .ok (.iload_n 3, 1) := by decide +kernel
theorem d_Law_way_7 : decode b_Law_way 7 = .ok (.iload 4, 2) := by decide +kernel
theorem d_Law_way_9 : decode b_Law_way 9 = .ok (.invokevirtual 37, 3) := by decide +kernel
theorem d_Law_way_12 : decode b_Law_way 12 = .ok (.i2l, 1) := by decide +kernel
theorem d_Law_way_13 : decode b_Law_way 13 = .ok (.lastore, 1) := by decide +kernel
theorem d_Law_way_14 : decode b_Law_way 14 = .ok (.goto 7, 3) := by decide +kernel
theorem d_Law_way_17 : decode b_Law_way 17 = .ok (.astore 6, 2) := by decide +kernel
theorem d_Law_way_19 : decode b_Law_way 19 = .ok (.iconst 1, 1) := by decide +kernel
theorem d_Law_way_20 : decode b_Law_way 20 = .ok (.ireturn, 1) := by decide +kernel
theorem d_Law_way_21 : decode b_Law_way 21 = .ok (.iconst 0, 1) := by decide +kernel
theorem d_Law_way_22 : decode b_Law_way 22 = .ok (.ireturn, 1) := by decide +kernel
theorem d_Law_law_0 : decode b_Law_law 0 = .ok (.new 8, 3) := by decide +kernel
theorem d_Law_law_3 : decode b_Law_law 3 = .ok (.dup, 1) := by decide +kernel
theorem d_Law_law_4 : decode b_Law_law 4 = .ok (.aload_n 0, 1) := by decide +kernel
theorem d_Law_law_5 : decode b_Law_law 5 = .ok (.iconst 0, 1) := by decide +kernel
theorem d_Law_law_6 : decode b_Law_law 6 = .ok (.invokestatic 41, 3) := by decide +kernel
theorem d_Law_law_9 : decode b_Law_law 9 = .ok (.aload_n 0, 1) := by decide +kernel
theorem d_Law_law_10 : decode b_Law_law 10 = .ok (.iconst 1, 1) := by decide +kernel
theorem d_Law_law_11 : decode b_Law_law 11 = .ok (.invokestatic 41, 3) := by decide +kernel
theorem d_Law_law_14 : decode b_Law_law 14 = .ok (.aload_n 0, 1) := by decide +kernel
theorem d_Law_law_15 : decode b_Law_law 15 = .ok (.iconst 2, 1) := by decide +kernel
theorem d_Law_law_16 : decode b_Law_law 16 = .ok (.invokestatic 41, 3) := by decide +kernel
theorem d_Law_law_19 : decode b_Law_law 19 = .ok (.invokespecial 47, 3) := by decide +kernel
theorem d_Law_law_22 : decode b_Law_law 22 = .ok (.astore_n 1, 1) := by decide +kernel
theorem d_Law_law_23 : decode b_Law_law 23 = .ok (.new 49, 3) := by decide +kernel
theorem d_Law_law_26 : decode b_Law_law 26 = .ok (.dup, 1) := by decide +kernel
theorem d_Law_law_27 : decode b_Law_law 27 = .ok (.aload_n 0, 1) := by decide +kernel
theorem d_Law_law_28 : decode b_Law_law 28 = .ok (.iconst 0, 1) := by decide +kernel
theorem d_Law_law_29 : decode b_Law_law 29 = .ok (.invokestatic 41, 3) := by decide +kernel
theorem d_Law_law_32 : decode b_Law_law 32 = .ok (.aload_n 0, 1) := by decide +kernel
theorem d_Law_law_33 : decode b_Law_law 33 = .ok (.iconst 1, 1) := by decide +kernel
theorem d_Law_law_34 : decode b_Law_law 34 = .ok (.invokestatic 41, 3) := by decide +kernel
theorem d_Law_law_37 : decode b_Law_law 37 = .ok (.aload_n 0, 1) := by decide +kernel
theorem d_Law_law_38 : decode b_Law_law 38 = .ok (.iconst 2, 1) := by decide +kernel
theorem d_Law_law_39 : decode b_Law_law 39 = .ok (.invokestatic 41, 3) := by decide +kernel
theorem d_Law_law_42 : decode b_Law_law 42 = .ok (.invokespecial 51, 3) := by decide +kernel
theorem d_Law_law_45 : decode b_Law_law 45 = .ok (.astore_n 2, 1) := by decide +kernel
theorem d_Law_law_46 : decode b_Law_law 46 = .ok (.iconst 1, 1) := by decide +kernel
theorem d_Law_law_47 : decode b_Law_law 47 = .ok (.newarray .long, 2) := by decide +kernel
theorem d_Law_law_49 : decode b_Law_law 49 = .ok (.astore_n 3, 1) := by decide +kernel
theorem d_Law_law_50 : decode b_Law_law 50 = .ok (.iconst 3, 1) := by decide +kernel
theorem d_Law_law_51 : decode b_Law_law 51 = .ok (.istore 4, 2) := by decide +kernel
theorem d_Law_law_53 : decode b_Law_law 53 = .ok (.iload 4, 2) := by decide +kernel
theorem d_Law_law_55 : decode b_Law_law 55 = .ok (.aload_n 0, 1) := by decide +kernel
theorem d_Law_law_56 : decode b_Law_law 56 = .ok (.arraylength, 1) := by decide +kernel
theorem d_Law_law_57 : decode b_Law_law 57 = .ok (.iconst 5, 1) := by decide +kernel
theorem d_Law_law_58 : decode b_Law_law 58 = .ok (.isub, 1) := by decide +kernel
theorem d_Law_law_59 : decode b_Law_law 59 = .ok (.if_icmp .gt 633, 3) := by decide +kernel
theorem d_Law_law_62 : decode b_Law_law 62 = .ok (.aload_n 0, 1) := by decide +kernel
theorem d_Law_law_63 : decode b_Law_law 63 = .ok (.iload 4, 2) := by decide +kernel
theorem d_Law_law_65 : decode b_Law_law 65 = .ok (.iaload, 1) := by decide +kernel
theorem d_Law_law_66 : decode b_Law_law 66 = .ok (.bipush 15, 2) := by decide +kernel
theorem d_Law_law_68 : decode b_Law_law 68 = .ok (.iand, 1) := by decide +kernel
theorem d_Law_law_69 : decode b_Law_law 69 = .ok (.tableswitch 617 0 10 #[59, 119, 154, 179, 235, 303, 351, 419, 487, 579, 604], 59) := by decide +kernel
theorem d_Law_law_128 : decode b_Law_law 128 = .ok (.aload_n 1, 1) := by decide +kernel
theorem d_Law_law_129 : decode b_Law_law 129 = .ok (.aload_n 0, 1) := by decide +kernel
theorem d_Law_law_130 : decode b_Law_law 130 = .ok (.iload 4, 2) := by decide +kernel
theorem d_Law_law_132 : decode b_Law_law 132 = .ok (.iconst 1, 1) := by decide +kernel
theorem d_Law_law_133 : decode b_Law_law 133 = .ok (.iadd, 1) := by decide +kernel
theorem d_Law_law_134 : decode b_Law_law 134 = .ok (.iaload, 1) := by decide +kernel
theorem d_Law_law_135 : decode b_Law_law 135 = .ok (.aload_n 0, 1) := by decide +kernel
theorem d_Law_law_136 : decode b_Law_law 136 = .ok (.iload 4, 2) := by decide +kernel
theorem d_Law_law_138 : decode b_Law_law 138 = .ok (.iconst 2, 1) := by decide +kernel
theorem d_Law_law_139 : decode b_Law_law 139 = .ok (.iadd, 1) := by decide +kernel
theorem d_Law_law_140 : decode b_Law_law 140 = .ok (.iaload, 1) := by decide +kernel
theorem d_Law_law_141 : decode b_Law_law 141 = .ok (.aload_n 0, 1) := by decide +kernel
theorem d_Law_law_142 : decode b_Law_law 142 = .ok (.iload 4, 2) := by decide +kernel
theorem d_Law_law_144 : decode b_Law_law 144 = .ok (.iconst 3, 1) := by decide +kernel
theorem d_Law_law_145 : decode b_Law_law 145 = .ok (.iadd, 1) := by decide +kernel
theorem d_Law_law_146 : decode b_Law_law 146 = .ok (.iaload, 1) := by decide +kernel
theorem d_Law_law_147 : decode b_Law_law 147 = .ok (.invokestatic 52, 3) := by decide +kernel
theorem d_Law_law_150 : decode b_Law_law 150 = .ok (.istore 5, 2) := by decide +kernel
theorem d_Law_law_152 : decode b_Law_law 152 = .ok (.aload_n 2, 1) := by decide +kernel
theorem d_Law_law_153 : decode b_Law_law 153 = .ok (.aload_n 0, 1) := by decide +kernel
theorem d_Law_law_154 : decode b_Law_law 154 = .ok (.iload 4, 2) := by decide +kernel
theorem d_Law_law_156 : decode b_Law_law 156 = .ok (.iconst 1, 1) := by decide +kernel
theorem d_Law_law_157 : decode b_Law_law 157 = .ok (.iadd, 1) := by decide +kernel
theorem d_Law_law_158 : decode b_Law_law 158 = .ok (.iaload, 1) := by decide +kernel
theorem d_Law_law_159 : decode b_Law_law 159 = .ok (.aload_n 0, 1) := by decide +kernel
theorem d_Law_law_160 : decode b_Law_law 160 = .ok (.iload 4, 2) := by decide +kernel
theorem d_Law_law_162 : decode b_Law_law 162 = .ok (.iconst 2, 1) := by decide +kernel
theorem d_Law_law_163 : decode b_Law_law 163 = .ok (.iadd, 1) := by decide +kernel
theorem d_Law_law_164 : decode b_Law_law 164 = .ok (.iaload, 1) := by decide +kernel
theorem d_Law_law_165 : decode b_Law_law 165 = .ok (.aload_n 0, 1) := by decide +kernel
theorem d_Law_law_166 : decode b_Law_law 166 = .ok (.iload 4, 2) := by decide +kernel
theorem d_Law_law_168 : decode b_Law_law 168 = .ok (.iconst 3, 1) := by decide +kernel
theorem d_Law_law_169 : decode b_Law_law 169 = .ok (.iadd, 1) := by decide +kernel
theorem d_Law_law_170 : decode b_Law_law 170 = .ok (.iaload, 1) := by decide +kernel
theorem d_Law_law_171 : decode b_Law_law 171 = .ok (.invokevirtual 55, 3) := by decide +kernel
theorem d_Law_law_174 : decode b_Law_law 174 = .ok (.aload_n 2, 1) := by decide +kernel
theorem d_Law_law_175 : decode b_Law_law 175 = .ok (.invokevirtual 56, 3) := by decide +kernel
theorem d_Law_law_178 : decode b_Law_law 178 = .ok (.iload 5, 2) := by decide +kernel
theorem d_Law_law_180 : decode b_Law_law 180 = .ok (.if_icmp .eq 5, 3) := by decide +kernel
theorem d_Law_law_183 : decode b_Law_law 183 = .ok (.iconst 0, 1) := by decide +kernel
theorem d_Law_law_184 : decode b_Law_law 184 = .ok (.ireturn, 1) := by decide +kernel
theorem d_Law_law_185 : decode b_Law_law 185 = .ok (.goto 501, 3) := by decide +kernel
theorem d_Law_law_188 : decode b_Law_law 188 = .ok (.aload_n 1, 1) := by decide +kernel
theorem d_Law_law_189 : decode b_Law_law 189 = .ok (.aload_n 0, 1) := by decide +kernel
theorem d_Law_law_190 : decode b_Law_law 190 = .ok (.iload 4, 2) := by decide +kernel
theorem d_Law_law_192 : decode b_Law_law 192 = .ok (.iconst 1, 1) := by decide +kernel
theorem d_Law_law_193 : decode b_Law_law 193 = .ok (.iadd, 1) := by decide +kernel
theorem d_Law_law_194 : decode b_Law_law 194 = .ok (.iaload, 1) := by decide +kernel
theorem d_Law_law_195 : decode b_Law_law 195 = .ok (.aload_n 0, 1) := by decide +kernel
theorem d_Law_law_196 : decode b_Law_law 196 = .ok (.iload 4, 2) := by decide +kernel
theorem d_Law_law_198 : decode b_Law_law 198 = .ok (.iconst 2, 1) := by decide +kernel
theorem d_Law_law_199 : decode b_Law_law 199 = .ok (.iadd, 1) := by decide +kernel
theorem d_Law_law_200 : decode b_Law_law 200 = .ok (.iaload, 1) := by decide +kernel
theorem d_Law_law_201 : decode b_Law_law 201 = .ok (.invokevirtual 60, 3) := by decide +kernel
theorem d_Law_law_204 : decode b_Law_law 204 = .ok (.aload_n 2, 1) := by decide +kernel
theorem d_Law_law_205 : decode b_Law_law 205 = .ok (.aload_n 0, 1) := by decide +kernel
theorem d_Law_law_206 : decode b_Law_law 206 = .ok (.iload 4, 2) := by decide +kernel
theorem d_Law_law_208 : decode b_Law_law 208 = .ok (.iconst 1, 1) := by decide +kernel
theorem d_Law_law_209 : decode b_Law_law 209 = .ok (.iadd, 1) := by decide +kernel
theorem d_Law_law_210 : decode b_Law_law 210 = .ok (.iaload, 1) := by decide +kernel
theorem d_Law_law_211 : decode b_Law_law 211 = .ok (.aload_n 0, 1) := by decide +kernel
theorem d_Law_law_212 : decode b_Law_law 212 = .ok (.iload 4, 2) := by decide +kernel
theorem d_Law_law_214 : decode b_Law_law 214 = .ok (.iconst 2, 1) := by decide +kernel
theorem d_Law_law_215 : decode b_Law_law 215 = .ok (.iadd, 1) := by decide +kernel
theorem d_Law_law_216 : decode b_Law_law 216 = .ok (.iaload, 1) := by decide +kernel
theorem d_Law_law_217 : decode b_Law_law 217 = .ok (.invokevirtual 63, 3) := by decide +kernel
theorem d_Law_law_220 : decode b_Law_law 220 = .ok (.goto 466, 3) := by decide +kernel
theorem d_Law_law_223 : decode b_Law_law 223 = .ok (.aload_n 1, 1) := by decide +kernel
theorem d_Law_law_224 : decode b_Law_law 224 = .ok (.aload_n 0, 1) := by decide +kernel
theorem d_Law_law_225 : decode b_Law_law 225 = .ok (.iload 4, 2) := by decide +kernel
theorem d_Law_law_227 : decode b_Law_law 227 = .ok (.iconst 1, 1) := by decide +kernel
theorem d_Law_law_228 : decode b_Law_law 228 = .ok (.iadd, 1) := by decide +kernel
theorem d_Law_law_229 : decode b_Law_law 229 = .ok (.iaload, 1) := by decide +kernel
theorem d_Law_law_230 : decode b_Law_law 230 = .ok (.invokevirtual 64, 3) := by decide +kernel
theorem d_Law_law_233 : decode b_Law_law 233 = .ok (.aload_n 2, 1) := by decide +kernel
theorem d_Law_law_234 : decode b_Law_law 234 = .ok (.aload_n 0, 1) := by decide +kernel
theorem d_Law_law_235 : decode b_Law_law 235 = .ok (.iload 4, 2) := by decide +kernel
theorem d_Law_law_237 : decode b_Law_law 237 = .ok (.iconst 1, 1) := by decide +kernel
theorem d_Law_law_238 : decode b_Law_law 238 = .ok (.iadd, 1) := by decide +kernel
theorem d_Law_law_239 : decode b_Law_law 239 = .ok (.iaload, 1) := by decide +kernel
theorem d_Law_law_240 : decode b_Law_law 240 = .ok (.invokevirtual 67, 3) := by decide +kernel
theorem d_Law_law_243 : decode b_Law_law 243 = .ok (.if_icmp .eq 443, 3) := by decide +kernel
theorem d_Law_law_246 : decode b_Law_law 246 = .ok (.iconst 0, 1) := by decide +kernel
theorem d_Law_law_247 : decode b_Law_law 247 = .ok (.ireturn, 1) := by decide +kernel
theorem d_Law_law_248 : decode b_Law_law 248 = .ok (.aload_n 1, 1) := by decide +kernel
theorem d_Law_law_249 : decode b_Law_law 249 = .ok (.aload_n 0, 1) := by decide +kernel
theorem d_Law_law_250 : decode b_Law_law 250 = .ok (.iload 4, 2) := by decide +kernel
theorem d_Law_law_252 : decode b_Law_law 252 = .ok (.iconst 1, 1) := by decide +kernel
theorem d_Law_law_253 : decode b_Law_law 253 = .ok (.iadd, 1) := by decide +kernel
theorem d_Law_law_254 : decode b_Law_law 254 = .ok (.iaload, 1) := by decide +kernel
theorem d_Law_law_255 : decode b_Law_law 255 = .ok (.aload_n 3, 1) := by decide +kernel
theorem d_Law_law_256 : decode b_Law_law 256 = .ok (.invokestatic 68, 3) := by decide +kernel
theorem d_Law_law_259 : decode b_Law_law 259 = .ok (.istore 5, 2) := by decide +kernel
theorem d_Law_law_261 : decode b_Law_law 261 = .ok (.aload_n 2, 1) := by decide +kernel
theorem d_Law_law_262 : decode b_Law_law 262 = .ok (.aload_n 0, 1) := by decide +kernel
theorem d_Law_law_263 : decode b_Law_law 263 = .ok (.iload 4, 2) := by decide +kernel
theorem d_Law_law_265 : decode b_Law_law 265 = .ok (.iconst 1, 1) := by decide +kernel
theorem d_Law_law_266 : decode b_Law_law 266 = .ok (.iadd, 1) := by decide +kernel
theorem d_Law_law_267 : decode b_Law_law 267 = .ok (.iaload, 1) := by decide +kernel
theorem d_Law_law_268 : decode b_Law_law 268 = .ok (.invokevirtual 71, 3) := by decide +kernel
theorem d_Law_law_271 : decode b_Law_law 271 = .ok (.istore 6, 2) := by decide +kernel
theorem d_Law_law_273 : decode b_Law_law 273 = .ok (.aload_n 2, 1) := by decide +kernel
theorem d_Law_law_274 : decode b_Law_law 274 = .ok (.invokevirtual 56, 3) := by decide +kernel
theorem d_Law_law_277 : decode b_Law_law 277 = .ok (.iload 5, 2) := by decide +kernel
theorem d_Law_law_279 : decode b_Law_law 279 = .ok (.if_icmp .eq 5, 3) := by decide +kernel
theorem d_Law_law_282 : decode b_Law_law 282 = .ok (.iconst 0, 1) := by decide +kernel
theorem d_Law_law_283 : decode b_Law_law 283 = .ok (.ireturn, 1) := by decide +kernel
theorem d_Law_law_284 : decode b_Law_law 284 = .ok (.iload 5, 2) := by decide +kernel
theorem d_Law_law_286 : decode b_Law_law 286 = .ok (.ifCond .ne 15, 3) := by decide +kernel
theorem d_Law_law_289 : decode b_Law_law 289 = .ok (.aload_n 3, 1) := by decide +kernel
theorem d_Law_law_290 : decode b_Law_law 290 = .ok (.iconst 0, 1) := by decide +kernel
theorem d_Law_law_291 : decode b_Law_law 291 = .ok (.laload, 1) := by decide +kernel
theorem d_Law_law_292 : decode b_Law_law 292 = .ok (.iload 6, 2) := by decide +kernel
theorem d_Law_law_294 : decode b_Law_law 294 = .ok (.i2l, 1) := by decide +kernel
theorem d_Law_law_295 : decode b_Law_law 295 = .ok (.lcmp, 1) := by decide +kernel
theorem d_Law_law_296 : decode b_Law_law 296 = .ok (.ifCond .eq 5, 3) := by decide +kernel
theorem d_Law_law_299 : decode b_Law_law 299 = .ok (.iconst 0, 1) := by decide +kernel
theorem d_Law_law_300 : decode b_Law_law 300 = .ok (.ireturn, 1) := by decide +kernel
theorem d_Law_law_301 : decode b_Law_law 301 = .ok (.goto 385, 3) := by decide +kernel
theorem d_Law_law_304 : decode b_Law_law 304 = .ok (.aload_n 1, 1) := by decide +kernel
theorem d_Law_law_305 : decode b_Law_law 305 = .ok (.aload_n 0, 1) := by decide +kernel
theorem d_Law_law_306 : decode b_Law_law 306 = .ok (.iload 4, 2) := by decide +kernel
theorem d_Law_law_308 : decode b_Law_law 308 = .ok (.iconst 1, 1) := by decide +kernel
theorem d_Law_law_309 : decode b_Law_law 309 = .ok (.iadd, 1) := by decide +kernel
theorem d_Law_law_310 : decode b_Law_law 310 = .ok (.iaload, 1) := by decide +kernel
theorem d_Law_law_311 : decode b_Law_law 311 = .ok (.aload_n 0, 1) := by decide +kernel
theorem d_Law_law_312 : decode b_Law_law 312 = .ok (.iload 4, 2) := by decide +kernel
theorem d_Law_law_314 : decode b_Law_law 314 = .ok (.iconst 2, 1) := by decide +kernel
theorem d_Law_law_315 : decode b_Law_law 315 = .ok (.iadd, 1) := by decide +kernel
theorem d_Law_law_316 : decode b_Law_law 316 = .ok (.iaload, 1) := by decide +kernel
theorem d_Law_law_317 : decode b_Law_law 317 = .ok (.aload_n 3, 1) := by decide +kernel
theorem d_Law_law_318 : decode b_Law_law 318 = .ok (.invokestatic 72, 3) := by decide +kernel
theorem d_Law_law_321 : decode b_Law_law 321 = .ok (.istore 5, 2) := by decide +kernel
theorem d_Law_law_323 : decode b_Law_law 323 = .ok (.aload_n 2, 1) := by decide +kernel
theorem d_Law_law_324 : decode b_Law_law 324 = .ok (.aload_n 0, 1) := by decide +kernel
theorem d_Law_law_325 : decode b_Law_law 325 = .ok (.iload 4, 2) := by decide +kernel
theorem d_Law_law_327 : decode b_Law_law 327 = .ok (.iconst 1, 1) := by decide +kernel
theorem d_Law_law_328 : decode b_Law_law 328 = .ok (.iadd, 1) := by decide +kernel
theorem d_Law_law_329 : decode b_Law_law 329 = .ok (.iaload, 1) := by decide +kernel
theorem d_Law_law_330 : decode b_Law_law 330 = .ok (.aload_n 0, 1) := by decide +kernel
theorem d_Law_law_331 : decode b_Law_law 331 = .ok (.iload 4, 2) := by decide +kernel
theorem d_Law_law_333 : decode b_Law_law 333 = .ok (.iconst 2, 1) := by decide +kernel
theorem d_Law_law_334 : decode b_Law_law 334 = .ok (.iadd, 1) := by decide +kernel
theorem d_Law_law_335 : decode b_Law_law 335 = .ok (.iaload, 1) := by decide +kernel
theorem d_Law_law_336 : decode b_Law_law 336 = .ok (.invokevirtual 75, 3) := by decide +kernel
theorem d_Law_law_339 : decode b_Law_law 339 = .ok (.istore 6, 2) := by decide +kernel
theorem d_Law_law_341 : decode b_Law_law 341 = .ok (.aload_n 2, 1) := by decide +kernel
theorem d_Law_law_342 : decode b_Law_law 342 = .ok (.invokevirtual 56, 3) := by decide +kernel
theorem d_Law_law_345 : decode b_Law_law 345 = .ok (.iload 5, 2) := by decide +kernel
theorem d_Law_law_347 : decode b_Law_law 347 = .ok (.if_icmp .eq 5, 3) := by decide +kernel
theorem d_Law_law_350 : decode b_Law_law 350 = .ok (.iconst 0, 1) := by decide +kernel
theorem d_Law_law_351 : decode b_Law_law 351 = .ok (.ireturn, 1) := by decide +kernel
theorem d_Law_law_352 : decode b_Law_law 352 = .ok (.iload 5, 2) := by decide +kernel
theorem d_Law_law_354 : decode b_Law_law 354 = .ok (.ifCond .ne 15, 3) := by decide +kernel
theorem d_Law_law_357 : decode b_Law_law 357 = .ok (.aload_n 3, 1) := by decide +kernel
theorem d_Law_law_358 : decode b_Law_law 358 = .ok (.iconst 0, 1) := by decide +kernel
theorem d_Law_law_359 : decode b_Law_law 359 = .ok (.laload, 1) := by decide +kernel
theorem d_Law_law_360 : decode b_Law_law 360 = .ok (.iload 6, 2) := by decide +kernel
theorem d_Law_law_362 : decode b_Law_law 362 = .ok (.i2l, 1) := by decide +kernel
theorem d_Law_law_363 : decode b_Law_law 363 = .ok (.lcmp, 1) := by decide +kernel
theorem d_Law_law_364 : decode b_Law_law 364 = .ok (.ifCond .eq 5, 3) := by decide +kernel
theorem d_Law_law_367 : decode b_Law_law 367 = .ok (.iconst 0, 1) := by decide +kernel
theorem d_Law_law_368 : decode b_Law_law 368 = .ok (.ireturn, 1) := by decide +kernel
theorem d_Law_law_369 : decode b_Law_law 369 = .ok (.goto 317, 3) := by decide +kernel
theorem d_Law_law_372 : decode b_Law_law 372 = .ok (.aload_n 1, 1) := by decide +kernel
theorem d_Law_law_373 : decode b_Law_law 373 = .ok (.aload_n 0, 1) := by decide +kernel
theorem d_Law_law_374 : decode b_Law_law 374 = .ok (.iload 4, 2) := by decide +kernel
theorem d_Law_law_376 : decode b_Law_law 376 = .ok (.iconst 1, 1) := by decide +kernel
theorem d_Law_law_377 : decode b_Law_law 377 = .ok (.iadd, 1) := by decide +kernel
theorem d_Law_law_378 : decode b_Law_law 378 = .ok (.iaload, 1) := by decide +kernel
theorem d_Law_law_379 : decode b_Law_law 379 = .ok (.aload_n 0, 1) := by decide +kernel
theorem d_Law_law_380 : decode b_Law_law 380 = .ok (.iload 4, 2) := by decide +kernel
theorem d_Law_law_382 : decode b_Law_law 382 = .ok (.iconst 2, 1) := by decide +kernel
theorem d_Law_law_383 : decode b_Law_law 383 = .ok (.iadd, 1) := by decide +kernel
theorem d_Law_law_384 : decode b_Law_law 384 = .ok (.iaload, 1) := by decide +kernel
theorem d_Law_law_385 : decode b_Law_law 385 = .ok (.invokestatic 76, 3) := by decide +kernel
theorem d_Law_law_388 : decode b_Law_law 388 = .ok (.istore 5, 2) := by decide +kernel
theorem d_Law_law_390 : decode b_Law_law 390 = .ok (.aload_n 2, 1) := by decide +kernel
theorem d_Law_law_391 : decode b_Law_law 391 = .ok (.aload_n 0, 1) := by decide +kernel
theorem d_Law_law_392 : decode b_Law_law 392 = .ok (.iload 4, 2) := by decide +kernel
theorem d_Law_law_394 : decode b_Law_law 394 = .ok (.iconst 1, 1) := by decide +kernel
theorem d_Law_law_395 : decode b_Law_law 395 = .ok (.iadd, 1) := by decide +kernel
theorem d_Law_law_396 : decode b_Law_law 396 = .ok (.iaload, 1) := by decide +kernel
theorem d_Law_law_397 : decode b_Law_law 397 = .ok (.aload_n 0, 1) := by decide +kernel
theorem d_Law_law_398 : decode b_Law_law 398 = .ok (.iload 4, 2) := by decide +kernel
theorem d_Law_law_400 : decode b_Law_law 400 = .ok (.iconst 2, 1) := by decide +kernel
theorem d_Law_law_401 : decode b_Law_law 401 = .ok (.iadd, 1) := by decide +kernel
theorem d_Law_law_402 : decode b_Law_law 402 = .ok (.iaload, 1) := by decide +kernel
theorem d_Law_law_403 : decode b_Law_law 403 = .ok (.invokevirtual 79, 3) := by decide +kernel
theorem d_Law_law_406 : decode b_Law_law 406 = .ok (.aload_n 2, 1) := by decide +kernel
theorem d_Law_law_407 : decode b_Law_law 407 = .ok (.invokevirtual 56, 3) := by decide +kernel
theorem d_Law_law_410 : decode b_Law_law 410 = .ok (.iload 5, 2) := by decide +kernel
theorem d_Law_law_412 : decode b_Law_law 412 = .ok (.if_icmp .eq 5, 3) := by decide +kernel
theorem d_Law_law_415 : decode b_Law_law 415 = .ok (.iconst 0, 1) := by decide +kernel
theorem d_Law_law_416 : decode b_Law_law 416 = .ok (.ireturn, 1) := by decide +kernel
theorem d_Law_law_417 : decode b_Law_law 417 = .ok (.goto 269, 3) := by decide +kernel
theorem d_Law_law_420 : decode b_Law_law 420 = .ok (.aload_n 1, 1) := by decide +kernel
theorem d_Law_law_421 : decode b_Law_law 421 = .ok (.aload_n 0, 1) := by decide +kernel
theorem d_Law_law_422 : decode b_Law_law 422 = .ok (.iload 4, 2) := by decide +kernel
theorem d_Law_law_424 : decode b_Law_law 424 = .ok (.iconst 1, 1) := by decide +kernel
theorem d_Law_law_425 : decode b_Law_law 425 = .ok (.iadd, 1) := by decide +kernel
theorem d_Law_law_426 : decode b_Law_law 426 = .ok (.iaload, 1) := by decide +kernel
theorem d_Law_law_427 : decode b_Law_law 427 = .ok (.aload_n 0, 1) := by decide +kernel
theorem d_Law_law_428 : decode b_Law_law 428 = .ok (.iload 4, 2) := by decide +kernel
theorem d_Law_law_430 : decode b_Law_law 430 = .ok (.iconst 2, 1) := by decide +kernel
theorem d_Law_law_431 : decode b_Law_law 431 = .ok (.iadd, 1) := by decide +kernel
theorem d_Law_law_432 : decode b_Law_law 432 = .ok (.iaload, 1) := by decide +kernel
theorem d_Law_law_433 : decode b_Law_law 433 = .ok (.aload_n 3, 1) := by decide +kernel
theorem d_Law_law_434 : decode b_Law_law 434 = .ok (.invokestatic 80, 3) := by decide +kernel
theorem d_Law_law_437 : decode b_Law_law 437 = .ok (.istore 5, 2) := by decide +kernel
theorem d_Law_law_439 : decode b_Law_law 439 = .ok (.aload_n 2, 1) := by decide +kernel
theorem d_Law_law_440 : decode b_Law_law 440 = .ok (.aload_n 0, 1) := by decide +kernel
theorem d_Law_law_441 : decode b_Law_law 441 = .ok (.iload 4, 2) := by decide +kernel
theorem d_Law_law_443 : decode b_Law_law 443 = .ok (.iconst 1, 1) := by decide +kernel
theorem d_Law_law_444 : decode b_Law_law 444 = .ok (.iadd, 1) := by decide +kernel
theorem d_Law_law_445 : decode b_Law_law 445 = .ok (.iaload, 1) := by decide +kernel
theorem d_Law_law_446 : decode b_Law_law 446 = .ok (.aload_n 0, 1) := by decide +kernel
theorem d_Law_law_447 : decode b_Law_law 447 = .ok (.iload 4, 2) := by decide +kernel
theorem d_Law_law_449 : decode b_Law_law 449 = .ok (.iconst 2, 1) := by decide +kernel
theorem d_Law_law_450 : decode b_Law_law 450 = .ok (.iadd, 1) := by decide +kernel
theorem d_Law_law_451 : decode b_Law_law 451 = .ok (.iaload, 1) := by decide +kernel
theorem d_Law_law_452 : decode b_Law_law 452 = .ok (.invokevirtual 82, 3) := by decide +kernel
theorem d_Law_law_455 : decode b_Law_law 455 = .ok (.istore 6, 2) := by decide +kernel
theorem d_Law_law_457 : decode b_Law_law 457 = .ok (.aload_n 2, 1) := by decide +kernel
theorem d_Law_law_458 : decode b_Law_law 458 = .ok (.invokevirtual 56, 3) := by decide +kernel
theorem d_Law_law_461 : decode b_Law_law 461 = .ok (.iload 5, 2) := by decide +kernel
theorem d_Law_law_463 : decode b_Law_law 463 = .ok (.if_icmp .eq 5, 3) := by decide +kernel
theorem d_Law_law_466 : decode b_Law_law 466 = .ok (.iconst 0, 1) := by decide +kernel
theorem d_Law_law_467 : decode b_Law_law 467 = .ok (.ireturn, 1) := by decide +kernel
theorem d_Law_law_468 : decode b_Law_law 468 = .ok (.iload 5, 2) := by decide +kernel
theorem d_Law_law_470 : decode b_Law_law 470 = .ok (.ifCond .ne 15, 3) := by decide +kernel
theorem d_Law_law_473 : decode b_Law_law 473 = .ok (.aload_n 3, 1) := by decide +kernel
theorem d_Law_law_474 : decode b_Law_law 474 = .ok (.iconst 0, 1) := by decide +kernel
theorem d_Law_law_475 : decode b_Law_law 475 = .ok (.laload, 1) := by decide +kernel
theorem d_Law_law_476 : decode b_Law_law 476 = .ok (.iload 6, 2) := by decide +kernel
theorem d_Law_law_478 : decode b_Law_law 478 = .ok (.i2l, 1) := by decide +kernel
theorem d_Law_law_479 : decode b_Law_law 479 = .ok (.lcmp, 1) := by decide +kernel
theorem d_Law_law_480 : decode b_Law_law 480 = .ok (.ifCond .eq 5, 3) := by decide +kernel
theorem d_Law_law_483 : decode b_Law_law 483 = .ok (.iconst 0, 1) := by decide +kernel
theorem d_Law_law_484 : decode b_Law_law 484 = .ok (.ireturn, 1) := by decide +kernel
theorem d_Law_law_485 : decode b_Law_law 485 = .ok (.goto 201, 3) := by decide +kernel
theorem d_Law_law_488 : decode b_Law_law 488 = .ok (.aload_n 1, 1) := by decide +kernel
theorem d_Law_law_489 : decode b_Law_law 489 = .ok (.aload_n 0, 1) := by decide +kernel
theorem d_Law_law_490 : decode b_Law_law 490 = .ok (.iload 4, 2) := by decide +kernel
theorem d_Law_law_492 : decode b_Law_law 492 = .ok (.iconst 1, 1) := by decide +kernel
theorem d_Law_law_493 : decode b_Law_law 493 = .ok (.iadd, 1) := by decide +kernel
theorem d_Law_law_494 : decode b_Law_law 494 = .ok (.iaload, 1) := by decide +kernel
theorem d_Law_law_495 : decode b_Law_law 495 = .ok (.aload_n 0, 1) := by decide +kernel
theorem d_Law_law_496 : decode b_Law_law 496 = .ok (.iload 4, 2) := by decide +kernel
theorem d_Law_law_498 : decode b_Law_law 498 = .ok (.iconst 2, 1) := by decide +kernel
theorem d_Law_law_499 : decode b_Law_law 499 = .ok (.iadd, 1) := by decide +kernel
theorem d_Law_law_500 : decode b_Law_law 500 = .ok (.iaload, 1) := by decide +kernel
theorem d_Law_law_501 : decode b_Law_law 501 = .ok (.aload_n 3, 1) := by decide +kernel
theorem d_Law_law_502 : decode b_Law_law 502 = .ok (.invokestatic 83, 3) := by decide +kernel
theorem d_Law_law_505 : decode b_Law_law 505 = .ok (.istore 5, 2) := by decide +kernel
theorem d_Law_law_507 : decode b_Law_law 507 = .ok (.aload_n 2, 1) := by decide +kernel
theorem d_Law_law_508 : decode b_Law_law 508 = .ok (.aload_n 0, 1) := by decide +kernel
theorem d_Law_law_509 : decode b_Law_law 509 = .ok (.iload 4, 2) := by decide +kernel
theorem d_Law_law_511 : decode b_Law_law 511 = .ok (.iconst 1, 1) := by decide +kernel
theorem d_Law_law_512 : decode b_Law_law 512 = .ok (.iadd, 1) := by decide +kernel
theorem d_Law_law_513 : decode b_Law_law 513 = .ok (.iaload, 1) := by decide +kernel
theorem d_Law_law_514 : decode b_Law_law 514 = .ok (.aload_n 0, 1) := by decide +kernel
theorem d_Law_law_515 : decode b_Law_law 515 = .ok (.iload 4, 2) := by decide +kernel
theorem d_Law_law_517 : decode b_Law_law 517 = .ok (.iconst 2, 1) := by decide +kernel
theorem d_Law_law_518 : decode b_Law_law 518 = .ok (.iadd, 1) := by decide +kernel
theorem d_Law_law_519 : decode b_Law_law 519 = .ok (.iaload, 1) := by decide +kernel
theorem d_Law_law_520 : decode b_Law_law 520 = .ok (.invokevirtual 85, 3) := by decide +kernel
theorem d_Law_law_523 : decode b_Law_law 523 = .ok (.istore 6, 2) := by decide +kernel
theorem d_Law_law_525 : decode b_Law_law 525 = .ok (.aload_n 2, 1) := by decide +kernel
theorem d_Law_law_526 : decode b_Law_law 526 = .ok (.invokevirtual 56, 3) := by decide +kernel
theorem d_Law_law_529 : decode b_Law_law 529 = .ok (.iload 5, 2) := by decide +kernel
theorem d_Law_law_531 : decode b_Law_law 531 = .ok (.if_icmp .eq 5, 3) := by decide +kernel
theorem d_Law_law_534 : decode b_Law_law 534 = .ok (.iconst 0, 1) := by decide +kernel
theorem d_Law_law_535 : decode b_Law_law 535 = .ok (.ireturn, 1) := by decide +kernel
theorem d_Law_law_536 : decode b_Law_law 536 = .ok (.iload 5, 2) := by decide +kernel
theorem d_Law_law_538 : decode b_Law_law 538 = .ok (.ifCond .ne 15, 3) := by decide +kernel
theorem d_Law_law_541 : decode b_Law_law 541 = .ok (.aload_n 3, 1) := by decide +kernel
theorem d_Law_law_542 : decode b_Law_law 542 = .ok (.iconst 0, 1) := by decide +kernel
theorem d_Law_law_543 : decode b_Law_law 543 = .ok (.laload, 1) := by decide +kernel
theorem d_Law_law_544 : decode b_Law_law 544 = .ok (.iload 6, 2) := by decide +kernel
theorem d_Law_law_546 : decode b_Law_law 546 = .ok (.i2l, 1) := by decide +kernel
theorem d_Law_law_547 : decode b_Law_law 547 = .ok (.lcmp, 1) := by decide +kernel
theorem d_Law_law_548 : decode b_Law_law 548 = .ok (.ifCond .eq 5, 3) := by decide +kernel
theorem d_Law_law_551 : decode b_Law_law 551 = .ok (.iconst 0, 1) := by decide +kernel
theorem d_Law_law_552 : decode b_Law_law 552 = .ok (.ireturn, 1) := by decide +kernel
theorem d_Law_law_553 : decode b_Law_law 553 = .ok (.goto 133, 3) := by decide +kernel
theorem d_Law_law_556 : decode b_Law_law 556 = .ok (.aload_n 1, 1) := by decide +kernel
theorem d_Law_law_557 : decode b_Law_law 557 = .ok (.aload_n 0, 1) := by decide +kernel
theorem d_Law_law_558 : decode b_Law_law 558 = .ok (.iload 4, 2) := by decide +kernel
theorem d_Law_law_560 : decode b_Law_law 560 = .ok (.iconst 1, 1) := by decide +kernel
theorem d_Law_law_561 : decode b_Law_law 561 = .ok (.iadd, 1) := by decide +kernel
theorem d_Law_law_562 : decode b_Law_law 562 = .ok (.iaload, 1) := by decide +kernel
theorem d_Law_law_563 : decode b_Law_law 563 = .ok (.aload_n 0, 1) := by decide +kernel
theorem d_Law_law_564 : decode b_Law_law 564 = .ok (.iload 4, 2) := by decide +kernel
theorem d_Law_law_566 : decode b_Law_law 566 = .ok (.iconst 2, 1) := by decide +kernel
theorem d_Law_law_567 : decode b_Law_law 567 = .ok (.iadd, 1) := by decide +kernel
theorem d_Law_law_568 : decode b_Law_law 568 = .ok (.iaload, 1) := by decide +kernel
theorem d_Law_law_569 : decode b_Law_law 569 = .ok (.aload_n 0, 1) := by decide +kernel
theorem d_Law_law_570 : decode b_Law_law 570 = .ok (.iload 4, 2) := by decide +kernel
theorem d_Law_law_572 : decode b_Law_law 572 = .ok (.iconst 3, 1) := by decide +kernel
theorem d_Law_law_573 : decode b_Law_law 573 = .ok (.iadd, 1) := by decide +kernel
theorem d_Law_law_574 : decode b_Law_law 574 = .ok (.iaload, 1) := by decide +kernel
theorem d_Law_law_575 : decode b_Law_law 575 = .ok (.aload_n 0, 1) := by decide +kernel
theorem d_Law_law_576 : decode b_Law_law 576 = .ok (.iload 4, 2) := by decide +kernel
theorem d_Law_law_578 : decode b_Law_law 578 = .ok (.iconst 4, 1) := by decide +kernel
theorem d_Law_law_579 : decode b_Law_law 579 = .ok (.iadd, 1) := by decide +kernel
theorem d_Law_law_580 : decode b_Law_law 580 = .ok (.iaload, 1) := by decide +kernel
theorem d_Law_law_581 : decode b_Law_law 581 = .ok (.aload_n 3, 1) := by decide +kernel
theorem d_Law_law_582 : decode b_Law_law 582 = .ok (.invokestatic 86, 3) := by decide +kernel
theorem d_Law_law_585 : decode b_Law_law 585 = .ok (.istore 5, 2) := by decide +kernel
theorem d_Law_law_587 : decode b_Law_law 587 = .ok (.aload_n 2, 1) := by decide +kernel
theorem d_Law_law_588 : decode b_Law_law 588 = .ok (.aload_n 0, 1) := by decide +kernel
theorem d_Law_law_589 : decode b_Law_law 589 = .ok (.iload 4, 2) := by decide +kernel
theorem d_Law_law_591 : decode b_Law_law 591 = .ok (.iconst 1, 1) := by decide +kernel
theorem d_Law_law_592 : decode b_Law_law 592 = .ok (.iadd, 1) := by decide +kernel
theorem d_Law_law_593 : decode b_Law_law 593 = .ok (.iaload, 1) := by decide +kernel
theorem d_Law_law_594 : decode b_Law_law 594 = .ok (.aload_n 0, 1) := by decide +kernel
theorem d_Law_law_595 : decode b_Law_law 595 = .ok (.iload 4, 2) := by decide +kernel
theorem d_Law_law_597 : decode b_Law_law 597 = .ok (.iconst 2, 1) := by decide +kernel
theorem d_Law_law_598 : decode b_Law_law 598 = .ok (.iadd, 1) := by decide +kernel
theorem d_Law_law_599 : decode b_Law_law 599 = .ok (.iaload, 1) := by decide +kernel
theorem d_Law_law_600 : decode b_Law_law 600 = .ok (.aload_n 0, 1) := by decide +kernel
theorem d_Law_law_601 : decode b_Law_law 601 = .ok (.iload 4, 2) := by decide +kernel
theorem d_Law_law_603 : decode b_Law_law 603 = .ok (.iconst 3, 1) := by decide +kernel
theorem d_Law_law_604 : decode b_Law_law 604 = .ok (.iadd, 1) := by decide +kernel
theorem d_Law_law_605 : decode b_Law_law 605 = .ok (.iaload, 1) := by decide +kernel
theorem d_Law_law_606 : decode b_Law_law 606 = .ok (.aload_n 0, 1) := by decide +kernel
theorem d_Law_law_607 : decode b_Law_law 607 = .ok (.iload 4, 2) := by decide +kernel
theorem d_Law_law_609 : decode b_Law_law 609 = .ok (.iconst 4, 1) := by decide +kernel
theorem d_Law_law_610 : decode b_Law_law 610 = .ok (.iadd, 1) := by decide +kernel
theorem d_Law_law_611 : decode b_Law_law 611 = .ok (.iaload, 1) := by decide +kernel
theorem d_Law_law_612 : decode b_Law_law 612 = .ok (.invokevirtual 89, 3) := by decide +kernel
theorem d_Law_law_615 : decode b_Law_law 615 = .ok (.istore 6, 2) := by decide +kernel
theorem d_Law_law_617 : decode b_Law_law 617 = .ok (.aload_n 2, 1) := by decide +kernel
theorem d_Law_law_618 : decode b_Law_law 618 = .ok (.invokevirtual 56, 3) := by decide +kernel
theorem d_Law_law_621 : decode b_Law_law 621 = .ok (.iload 5, 2) := by decide +kernel
theorem d_Law_law_623 : decode b_Law_law 623 = .ok (.if_icmp .eq 5, 3) := by decide +kernel
theorem d_Law_law_626 : decode b_Law_law 626 = .ok (.iconst 0, 1) := by decide +kernel
theorem d_Law_law_627 : decode b_Law_law 627 = .ok (.ireturn, 1) := by decide +kernel
theorem d_Law_law_628 : decode b_Law_law 628 = .ok (.iload 5, 2) := by decide +kernel
theorem d_Law_law_630 : decode b_Law_law 630 = .ok (.ifCond .ne 15, 3) := by decide +kernel
theorem d_Law_law_633 : decode b_Law_law 633 = .ok (.aload_n 3, 1) := by decide +kernel
theorem d_Law_law_634 : decode b_Law_law 634 = .ok (.iconst 0, 1) := by decide +kernel
theorem d_Law_law_635 : decode b_Law_law 635 = .ok (.laload, 1) := by decide +kernel
theorem d_Law_law_636 : decode b_Law_law 636 = .ok (.iload 6, 2) := by decide +kernel
theorem d_Law_law_638 : decode b_Law_law 638 = .ok (.i2l, 1) := by decide +kernel
theorem d_Law_law_639 : decode b_Law_law 639 = .ok (.lcmp, 1) := by decide +kernel
theorem d_Law_law_640 : decode b_Law_law 640 = .ok (.ifCond .eq 5, 3) := by decide +kernel
theorem d_Law_law_643 : decode b_Law_law 643 = .ok (.iconst 0, 1) := by decide +kernel
theorem d_Law_law_644 : decode b_Law_law 644 = .ok (.ireturn, 1) := by decide +kernel
theorem d_Law_law_645 : decode b_Law_law 645 = .ok (.goto 41, 3) := by decide +kernel
theorem d_Law_law_648 : decode b_Law_law 648 = .ok (.aload_n 1, 1) := by decide +kernel
theorem d_Law_law_649 : decode b_Law_law 649 = .ok (.aload_n 0, 1) := by decide +kernel
theorem d_Law_law_650 : decode b_Law_law 650 = .ok (.iload 4, 2) := by decide +kernel
theorem d_Law_law_652 : decode b_Law_law 652 = .ok (.iconst 1, 1) := by decide +kernel
theorem d_Law_law_653 : decode b_Law_law 653 = .ok (.iadd, 1) := by decide +kernel
theorem d_Law_law_654 : decode b_Law_law 654 = .ok (.iaload, 1) := by decide +kernel
theorem d_Law_law_655 : decode b_Law_law 655 = .ok (.invokevirtual 90, 3) := by decide +kernel
theorem d_Law_law_658 : decode b_Law_law 658 = .ok (.aload_n 2, 1) := by decide +kernel
theorem d_Law_law_659 : decode b_Law_law 659 = .ok (.aload_n 0, 1) := by decide +kernel
theorem d_Law_law_660 : decode b_Law_law 660 = .ok (.iload 4, 2) := by decide +kernel
theorem d_Law_law_662 : decode b_Law_law 662 = .ok (.iconst 1, 1) := by decide +kernel
theorem d_Law_law_663 : decode b_Law_law 663 = .ok (.iadd, 1) := by decide +kernel
theorem d_Law_law_664 : decode b_Law_law 664 = .ok (.iaload, 1) := by decide +kernel
theorem d_Law_law_665 : decode b_Law_law 665 = .ok (.invokevirtual 93, 3) := by decide +kernel
theorem d_Law_law_668 : decode b_Law_law 668 = .ok (.if_icmp .eq 18, 3) := by decide +kernel
theorem d_Law_law_671 : decode b_Law_law 671 = .ok (.iconst 0, 1) := by decide +kernel
theorem d_Law_law_672 : decode b_Law_law 672 = .ok (.ireturn, 1) := by decide +kernel
theorem d_Law_law_673 : decode b_Law_law 673 = .ok (.aload_n 1, 1) := by decide +kernel
theorem d_Law_law_674 : decode b_Law_law 674 = .ok (.invokevirtual 94, 3) := by decide +kernel
theorem d_Law_law_677 : decode b_Law_law 677 = .ok (.aload_n 2, 1) := by decide +kernel
theorem d_Law_law_678 : decode b_Law_law 678 = .ok (.invokevirtual 97, 3) := by decide +kernel
theorem d_Law_law_681 : decode b_Law_law 681 = .ok (.if_icmp .eq 5, 3) := by decide +kernel
theorem d_Law_law_684 : decode b_Law_law 684 = .ok (.iconst 0, 1) := by decide +kernel
theorem d_Law_law_685 : decode b_Law_law 685 = .ok (.ireturn, 1) := by decide +kernel
theorem d_Law_law_686 : decode b_Law_law 686 = .ok (.iinc 4 5, 3) := by decide +kernel
theorem d_Law_law_689 : decode b_Law_law 689 = .ok (.goto (-636), 3) := by decide +kernel
theorem d_Law_law_692 : decode b_Law_law 692 = .ok (.iconst 1, 1) := by decide +kernel
theorem d_Law_law_693 : decode b_Law_law 693 = .ok (.ireturn, 1) := by decide +kernel
