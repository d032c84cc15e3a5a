theorem d_Model_init_0 : decode b_Model_init 0 = .ok (.aload_n 0, 1) := by decide +kernel
theorem d_Model_init_1 : decode b_Model_init 1 = .ok (.invokespecial 1, 3) := by decide +kernel
theorem d_Model_init_4 : decode b_Model_init 4 = .ok (.aload_n 0, 1) := by decide +kernel
theorem d_Model_init_5 : decode b_Model_init 5 = .ok (.bipush 64, 2) := by decide +kernel
theorem d_Model_init_7 : decode b_Model_init 7 = .ok (.newarray .int, 2) := by decide +kernel
theorem d_Model_init_9 : decode b_Model_init 9 = .ok (.putfield 7, 3) := by decide +kernel
theorem d_Model_init_12 : decode b_Model_init 12 = .ok (.aload_n 0, 1) := by decide +kernel
theorem d_Model_init_13 : decode b_Model_init 13 = .ok (.bipush 24, 2) := by decide +kernel
theorem d_Model_init_15 : decode b_Model_init 15 = .ok (.newarray .int, 2) := by decide +kernel
theorem d_Model_init_17 : decode b_Model_init 17 = .ok (.putfield 13, 3) := by decide +kernel
theorem d_Model_init_20 : decode b_Model_init 20 = .ok (.aload_n 0, 1) := by decide +kernel
theorem d_Model_init_21 : decode b_Model_init 21 = .ok (.bipush 24, 2) := by decide +kernel
theorem d_Model_init_23 : decode b_Model_init 23 = .ok (.newarray .int, 2) := by decide +kernel
theorem d_Model_init_25 : decode b_Model_init 25 = .ok (.putfield 16, 3) := by decide +kernel
theorem d_Model_init_28 : decode b_Model_init 28 = .ok (.aload_n 0, 1) := by decide +kernel
theorem d_Model_init_29 : decode b_Model_init 29 = .ok (.bipush 48, 2) := by decide +kernel
theorem d_Model_init_31 : decode b_Model_init 31 = .ok (.newarray .int, 2) := by decide +kernel
theorem d_Model_init_33 : decode b_Model_init 33 = .ok (.putfield 19, 3) := by decide +kernel
theorem d_Model_init_36 : decode b_Model_init 36 = .ok (.aload_n 0, 1) := by decide +kernel
theorem d_Model_init_37 : decode b_Model_init 37 = .ok (.iconst 3, 1) := by decide +kernel
theorem d_Model_init_38 : decode b_Model_init 38 = .ok (.newarray .int, 2) := by decide +kernel
theorem d_Model_init_40 : decode b_Model_init 40 = .ok (.putfield 22, 3) := by decide +kernel
theorem d_Model_init_43 : decode b_Model_init 43 = .ok (.aload_n 0, 1) := by decide +kernel
theorem d_Model_init_44 : decode b_Model_init 44 = .ok (.iconst 3, 1) := by decide +kernel
theorem d_Model_init_45 : decode b_Model_init 45 = .ok (.newarray .int, 2) := by decide +kernel
theorem d_Model_init_47 : decode b_Model_init 47 = .ok (.putfield 25, 3) := by decide +kernel
theorem d_Model_init_50 : decode b_Model_init 50 = .ok (.aload_n 0, 1) := by decide +kernel
theorem d_Model_init_51 : decode b_Model_init 51 = .ok (.iconst 3, 1) := by decide +kernel
theorem d_Model_init_52 : decode b_Model_init 52 = .ok (.newarray .int, 2) := by decide +kernel
theorem d_Model_init_54 : decode b_Model_init 54 = .ok (.putfield 28, 3) := by decide +kernel
theorem d_Model_init_57 : decode b_Model_init 57 = .ok (.aload_n 0, 1) := by decide +kernel
theorem d_Model_init_58 : decode b_Model_init 58 = .ok (.iconst 3, 1) := by decide +kernel
theorem d_Model_init_59 : decode b_Model_init 59 = .ok (.newarray .boolean, 2) := by decide +kernel
theorem d_Model_init_61 : decode b_Model_init 61 = .ok (.putfield 31, 3) := by decide +kernel
theorem d_Model_init_64 : decode b_Model_init 64 = .ok (.aload_n 0, 1) := by decide +kernel
theorem d_Model_init_65 : decode b_Model_init 65 = .ok (.bipush 18, 2) := by decide +kernel
theorem d_Model_init_67 : decode b_Model_init 67 = .ok (.newarray .int, 2) := by decide +kernel
theorem d_Model_init_69 : decode b_Model_init 69 = .ok (.putfield 35, 3) := by decide +kernel
theorem d_Model_init_72 : decode b_Model_init 72 = .ok (.aload_n 0, 1) := by decide +kernel
theorem d_Model_init_73 : decode b_Model_init 73 = .ok (.bipush 36, 2) := by decide +kernel
theorem d_Model_init_75 : decode b_Model_init 75 = .ok (.newarray .int, 2) := by decide +kernel
theorem d_Model_init_77 : decode b_Model_init 77 = .ok (.putfield 38, 3) := by decide +kernel
theorem d_Model_init_80 : decode b_Model_init 80 = .ok (.aload_n 0, 1) := by decide +kernel
theorem d_Model_init_81 : decode b_Model_init 81 = .ok (.bipush 36, 2) := by decide +kernel
theorem d_Model_init_83 : decode b_Model_init 83 = .ok (.newarray .int, 2) := by decide +kernel
theorem d_Model_init_85 : decode b_Model_init 85 = .ok (.putfield 41, 3) := by decide +kernel
theorem d_Model_init_88 : decode b_Model_init 88 = .ok (.aload_n 0, 1) := by decide +kernel
theorem d_Model_init_89 : decode b_Model_init 89 = .ok (.bipush 36, 2) := by decide +kernel
theorem d_Model_init_91 : decode b_Model_init 91 = .ok (.newarray .int, 2) := by decide +kernel
theorem d_Model_init_93 : decode b_Model_init 93 = .ok (.putfield 44, 3) := by decide +kernel
theorem d_Model_init_96 : decode b_Model_init 96 = .ok (.aload_n 0, 1) := by decide +kernel
theorem d_Model_init_97 : decode b_Model_init 97 = .ok (.bipush 36, 2) := by decide +kernel
theorem d_Model_init_99 : decode b_Model_init 99 = .ok (.newarray .int, 2) := by decide +kernel
theorem d_Model_init_101 : decode b_Model_init 101 = .ok (.putfield 47, 3) := by decide +kernel
theorem d_Model_init_104 : decode b_Model_init 104 = .ok (.aload_n 0, 1) := by decide +kernel
theorem d_Model_init_105 : decode b_Model_init 105 = .ok (.bipush 36, 2) := by decide +kernel
theorem d_Model_init_107 : decode b_Model_init 107 = .ok (.newarray .int, 2) := by decide +kernel
theorem d_Model_init_109 : decode b_Model_init 109 = .ok (.putfield 50, 3) := by decide +kernel
theorem d_Model_init_112 : decode b_Model_init 112 = .ok (.aload_n 0, 1) := by decide +kernel
theorem d_Model_init_113 : decode b_Model_init 113 = .ok (.bipush 36, 2) := by decide +kernel
theorem d_Model_init_115 : decode b_Model_init 115 = .ok (.newarray .int, 2) := by decide +kernel
theorem d_Model_init_117 : decode b_Model_init 117 = .ok (.putfield 53, 3) := by decide +kernel
theorem d_Model_init_120 : decode b_Model_init 120 = .ok (.aload_n 0, 1) := by decide +kernel
theorem d_Model_init_121 : decode b_Model_init 121 = .ok (.iload_n 1, 1) := by decide +kernel
theorem d_Model_init_122 : decode b_Model_init 122 = .ok (.iconst 1, 1) := by decide +kernel
theorem d_Model_init_123 : decode b_Model_init 123 = .ok (.if_icmp .ge 7, 3) := by decide +kernel
theorem d_Model_init_126 : decode b_Model_init 126 = .ok (.iconst 1, 1) := by decide +kernel
theorem d_Model_init_127 : decode b_Model_init 127 = .ok (.goto 13, 3) := by decide +kernel
theorem d_Model_init_130 : decode b_Model_init 130 = .ok (.iload_n 1, 1) := by decide +kernel
theorem d_Model_init_131 : decode b_Model_init 131 = .ok (.iconst 3, 1) := by decide +kernel
theorem d_Model_init_132 : decode b_Model_init 132 = .ok (.if_icmp .le 7, 3) := by decide +kernel
theorem d_Model_init_135 : decode b_Model_init 135 = .ok (.iconst 3, 1) := by decide +kernel
theorem d_Model_init_136 : decode b_Model_init 136 = .ok (.goto 4, 3) := by decide +kernel
theorem d_Model_init_139 : decode b_Model_init 139 = .ok (.iload_n 1, 1) := by decide +kernel
theorem d_Model_init_140 : decode b_Model_init 140 = .ok (.putfield 56, 3) := by decide +kernel
theorem d_Model_init_143 : decode b_Model_init 143 = .ok (.aload_n 0, 1) := by decide +kernel
theorem d_Model_init_144 : decode b_Model_init 144 = .ok (.iload_n 2, 1) := by decide +kernel
theorem d_Model_init_145 : decode b_Model_init 145 = .ok (.iconst 2, 1) := by decide +kernel
theorem d_Model_init_146 : decode b_Model_init 146 = .ok (.if_icmp .ge 7, 3) := by decide +kernel
theorem d_Model_init_149 : decode b_Model_init 149 = .ok (.iconst 1, 1) := by decide +kernel
theorem d_Model_init_150 : decode b_Model_init 150 = .ok (.goto 13, 3) := by decide +kernel
theorem d_Model_init_153 : decode b_Model_init 153 = .ok (.iload_n 2, 1) := by decide +kernel
theorem d_Model_init_154 : decode b_Model_init 154 = .ok (.iconst 4, 1) := by decide +kernel
theorem d_Model_init_155 : decode b_Model_init 155 = .ok (.if_icmp .ge 7, 3) := by decide +kernel
theorem d_Model_init_158 : decode b_Model_init 158 = .ok (.iconst 2, 1) := by decide +kernel
theorem d_Model_init_159 : decode b_Model_init 159 = .ok (.goto 4, 3) := by decide +kernel
theorem d_Model_init_162 : decode b_Model_init 162 = .ok (.iconst 4, 1) := by decide +kernel
theorem d_Model_init_163 : decode b_Model_init 163 = .ok (.putfield 60, 3) := by decide +kernel
theorem d_Model_init_166 : decode b_Model_init 166 = .ok (.aload_n 0, 1) := by decide +kernel
theorem d_Model_init_167 : decode b_Model_init 167 = .ok (.iload_n 3, 1) := by decide +kernel
theorem d_Model_init_168 : decode b_Model_init 168 = .ok (.iconst 1, 1) := by decide +kernel
theorem d_Model_init_169 : decode b_Model_init 169 = .ok (.if_icmp .ge 7, 3) := by decide +kernel
theorem d_Model_init_172 : decode b_Model_init 172 = .ok (.iconst 1, 1) := by decide +kernel
theorem d_Model_init_173 : decode b_Model_init 173 = .ok (.goto 13, 3) := by decide +kernel
theorem d_Model_init_176 : decode b_Model_init 176 = .ok (.iload_n 3, 1) := by decide +kernel
theorem d_Model_init_177 : decode b_Model_init 177 = .ok (.iconst 3, 1) := by decide +kernel
theorem d_Model_init_178 : decode b_Model_init 178 = .ok (.if_icmp .le 7, 3) := by decide +kernel
theorem d_Model_init_181 : decode b_Model_init 181 = .ok (.iconst 3, 1) := by decide +kernel
theorem d_Model_init_182 : decode b_Model_init 182 = .ok (.goto 4, 3) := by decide +kernel
theorem d_Model_init_185 : decode b_Model_init 185 = .ok (.iload_n 3, 1) := by decide +kernel
theorem d_Model_init_186 : decode b_Model_init 186 = .ok (.putfield 63, 3) := by decide +kernel
theorem d_Model_init_189 : decode b_Model_init 189 = .ok (.return_, 1) := by decide +kernel
theorem d_Model_thrown_0 : decode b_Model_thrown 0 = .ok (.aload_n 0, 1) := by decide +kernel
theorem d_Model_thrown_1 : decode b_Model_thrown 1 = .ok (.getfield 66, 3) := by decide +kernel
theorem d_Model_thrown_4 : decode b_Model_thrown 4 = .ok (.ireturn, 1) := by decide +kernel
theorem d_Model_code_0 : decode b_Model_code 0 = .ok (.aload_n 0, 1) := by decide +kernel
theorem d_Model_code_1 : decode b_Model_code 1 = .ok (.aload_n 0, 1) := by decide +kernel
theorem d_Model_code_2 : decode b_Model_code 2 = .ok (.iload_n 1, 1) := by decide +kernel
theorem d_Model_code_3 : decode b_Model_code 3 = .ok (.invokevirtual 98, 3) := by decide +kernel
theorem d_Model_code_6 : decode b_Model_code 6 = .ok (.ifCond .eq 13, 3) := by decide +kernel
theorem d_Model_code_9 : decode b_Model_code 9 = .ok (.iload_n 2, 1) := by decide +kernel
theorem d_Model_code_10 : decode b_Model_code 10 = .ok (.ifCond .lt 9, 3) := by decide +kernel
theorem d_Model_code_13 : decode b_Model_code 13 = .ok (.iload_n 2, 1) := by decide +kernel
theorem d_Model_code_14 : decode b_Model_code 14 = .ok (.bipush 15, 2) := by decide +kernel
theorem d_Model_code_16 : decode b_Model_code 16 = .ok (.if_icmp .le 7, 3) := by decide +kernel
theorem d_Model_code_19 : decode b_Model_code 19 = .ok (.iconst 1, 1) := by decide +kernel
theorem d_Model_code_20 : decode b_Model_code 20 = .ok (.goto 4, 3) := by decide +kernel
theorem d_Model_code_23 : decode b_Model_code 23 = .ok (.iconst 0, 1) := by decide +kernel
theorem d_Model_code_24 : decode b_Model_code 24 = .ok (.putfield 66, 3) := by decide +kernel
theorem d_Model_code_27 : decode b_Model_code 27 = .ok (.aload_n 0, 1) := by decide +kernel
theorem d_Model_code_28 : decode b_Model_code 28 = .ok (.getfield 66, 3) := by decide +kernel
theorem d_Model_code_31 : decode b_Model_code 31 = .ok (.ifCond .ne 15, 3) := by decide +kernel
theorem d_Model_code_34 : decode b_Model_code 34 = .ok (.aload_n 0, 1) := by decide +kernel
theorem d_Model_code_35 : decode b_Model_code 35 = .ok (.getfield 19, 3) := by decide +kernel
theorem d_Model_code_38 : decode b_Model_code 38 = .ok (.bipush 16, 2) := by decide +kernel
theorem d_Model_code_40 : decode b_Model_code 40 = .ok (.iload_n 1, 1) := by decide +kernel
theorem d_Model_code_41 : decode b_Model_code 41 = .ok (.imul, 1) := by decide +kernel
theorem d_Model_code_42 : decode b_Model_code 42 = .ok (.iload_n 2, 1) := by decide +kernel
theorem d_Model_code_43 : decode b_Model_code 43 = .ok (.iadd, 1) := by decide +kernel
theorem d_Model_code_44 : decode b_Model_code 44 = .ok (.iload_n 3, 1) := by decide +kernel
theorem d_Model_code_45 : decode b_Model_code 45 = .ok (.iastore, 1) := by decide +kernel
theorem d_Model_code_46 : decode b_Model_code 46 = .ok (.return_, 1) := by decide +kernel
theorem d_Model_isCore_0 : decode b_Model_isCore 0 = .ok (.iload_n 1, 1) := by decide +kernel
theorem d_Model_isCore_1 : decode b_Model_isCore 1 = .ok (.ifCond .lt 15, 3) := by decide +kernel
theorem d_Model_isCore_4 : decode b_Model_isCore 4 = .ok (.iload_n 1, 1) := by decide +kernel
theorem d_Model_isCore_5 : decode b_Model_isCore 5 = .ok (.aload_n 0, 1) := by decide +kernel
theorem d_Model_isCore_6 : decode b_Model_isCore 6 = .ok (.getfield 56, 3) := by decide +kernel
theorem d_Model_isCore_9 : decode b_Model_isCore 9 = .ok (.if_icmp .ge 7, 3) := by decide +kernel
theorem d_Model_isCore_12 : decode b_Model_isCore 12 = .ok (.iconst 1, 1) := by decide +kernel
theorem d_Model_isCore_13 : decode b_Model_isCore 13 = .ok (.goto 4, 3) := by decide +kernel
theorem d_Model_isCore_16 : decode b_Model_isCore 16 = .ok (.iconst 0, 1) := by decide +kernel
theorem d_Model_isCore_17 : decode b_Model_isCore 17 = .ok (.ireturn, 1) := by decide +kernel
theorem d_Model_poke_0 : decode b_Model_poke 0 = .ok (.aload_n 0, 1) := by decide +kernel
theorem d_Model_poke_1 : decode b_Model_poke 1 = .ok (.iconst 0, 1) := by decide +kernel
theorem d_Model_poke_2 : decode b_Model_poke 2 = .ok (.putfield 66, 3) := by decide +kernel
theorem d_Model_poke_5 : decode b_Model_poke 5 = .ok (.iconst 0, 1) := by decide +kernel
theorem d_Model_poke_6 : decode b_Model_poke 6 = .ok (.istore_n 3, 1) := by decide +kernel
theorem d_Model_poke_7 : decode b_Model_poke 7 = .ok (.iload_n 3, 1) := by decide +kernel
theorem d_Model_poke_8 : decode b_Model_poke 8 = .ok (.aload_n 0, 1) := by decide +kernel
theorem d_Model_poke_9 : decode b_Model_poke 9 = .ok (.getfield 56, 3) := by decide +kernel
theorem d_Model_poke_12 : decode b_Model_poke 12 = .ok (.if_icmp .ge 21, 3) := by decide +kernel
theorem d_Model_poke_15 : decode b_Model_poke 15 = .ok (.aload_n 0, 1) := by decide +kernel
theorem d_Model_poke_16 : decode b_Model_poke 16 = .ok (.iload_n 3, 1) := by decide +kernel
theorem d_Model_poke_17 : decode b_Model_poke 17 = .ok (.iload_n 1, 1) := by decide +kernel
theorem d_Model_poke_18 : decode b_Model_poke 18 = .ok (.bipush 63, 2) := by decide +kernel
theorem d_Model_poke_20 : decode b_Model_poke 20 = .ok (.iand, 1) := by decide +kernel
theorem d_Model_poke_21 : decode b_Model_poke 21 = .ok (.iconst 2, 1) := by decide +kernel
theorem d_Model_poke_22 : decode b_Model_poke 22 = .ok (.idiv, 1) := by decide +kernel
theorem d_Model_poke_23 : decode b_Model_poke 23 = .ok (.iconst 1, 1) := by decide +kernel
theorem d_Model_poke_24 : decode b_Model_poke 24 = .ok (.invokevirtual 91, 3) := by decide +kernel
theorem d_Model_poke_27 : decode b_Model_poke 27 = .ok (.iinc 3 1, 3) := by decide +kernel
theorem d_Model_poke_30 : decode b_Model_poke 30 = .ok (.goto (-23), 3) := by decide +kernel
theorem d_Model_poke_33 : decode b_Model_poke 33 = .ok (.aload_n 0, 1) := by decide +kernel
theorem d_Model_poke_34 : decode b_Model_poke 34 = .ok (.getfield 7, 3) := by decide +kernel
theorem d_Model_poke_37 : decode b_Model_poke 37 = .ok (.iload_n 1, 1) := by decide +kernel
theorem d_Model_poke_38 : decode b_Model_poke 38 = .ok (.bipush 63, 2) := by decide +kernel
theorem d_Model_poke_40 : decode b_Model_poke 40 = .ok (.iand, 1) := by decide +kernel
theorem d_Model_poke_41 : decode b_Model_poke 41 = .ok (.iload_n 2, 1) := by decide +kernel
theorem d_Model_poke_42 : decode b_Model_poke 42 = .ok (.iastore, 1) := by decide +kernel
theorem d_Model_poke_43 : decode b_Model_poke 43 = .ok (.return_, 1) := by decide +kernel
theorem d_Model_meet_0 : decode b_Model_meet 0 = .ok (.aload_n 0, 1) := by decide +kernel
theorem d_Model_meet_1 : decode b_Model_meet 1 = .ok (.iload_n 1, 1) := by decide +kernel
theorem d_Model_meet_2 : decode b_Model_meet 2 = .ok (.iload_n 2, 1) := by decide +kernel
theorem d_Model_meet_3 : decode b_Model_meet 3 = .ok (.invokevirtual 73, 3) := by decide +kernel
theorem d_Model_meet_6 : decode b_Model_meet 6 = .ok (.istore 4, 2) := by decide +kernel
theorem d_Model_meet_8 : decode b_Model_meet 8 = .ok (.iload 4, 2) := by decide +kernel
theorem d_Model_meet_10 : decode b_Model_meet 10 = .ok (.iconst (-1), 1) := by decide +kernel
theorem d_Model_meet_11 : decode b_Model_meet 11 = .ok (.if_icmp .ne 4, 3) := by decide +kernel
theorem d_Model_meet_14 : decode b_Model_meet 14 = .ok (.return_, 1) := by decide +kernel
theorem d_Model_meet_15 : decode b_Model_meet 15 = .ok (.aload_n 0, 1) := by decide +kernel
theorem d_Model_meet_16 : decode b_Model_meet 16 = .ok (.getfield 44, 3) := by decide +kernel
theorem d_Model_meet_19 : decode b_Model_meet 19 = .ok (.iload 4, 2) := by decide +kernel
theorem d_Model_meet_21 : decode b_Model_meet 21 = .ok (.iaload, 1) := by decide +kernel
theorem d_Model_meet_22 : decode b_Model_meet 22 = .ok (.iconst 2, 1) := by decide +kernel
theorem d_Model_meet_23 : decode b_Model_meet 23 = .ok (.iand, 1) := by decide +kernel
theorem d_Model_meet_24 : decode b_Model_meet 24 = .ok (.ifCond .ne 17, 3) := by decide +kernel
theorem d_Model_meet_27 : decode b_Model_meet 27 = .ok (.iload_n 3, 1) := by decide +kernel
theorem d_Model_meet_28 : decode b_Model_meet 28 = .ok (.ifCond .eq 20, 3) := by decide +kernel
theorem d_Model_meet_31 : decode b_Model_meet 31 = .ok (.aload_n 0, 1) := by decide +kernel
theorem d_Model_meet_32 : decode b_Model_meet 32 = .ok (.getfield 44, 3) := by decide +kernel
theorem d_Model_meet_35 : decode b_Model_meet 35 = .ok (.iload 4, 2) := by decide +kernel
theorem d_Model_meet_37 : decode b_Model_meet 37 = .ok (.iaload, 1) := by decide +kernel
theorem d_Model_meet_38 : decode b_Model_meet 38 = .ok (.ifCond .eq 10, 3) := by decide +kernel
theorem d_Model_meet_41 : decode b_Model_meet 41 = .ok (.aload_n 0, 1) := by decide +kernel
theorem d_Model_meet_42 : decode b_Model_meet 42 = .ok (.iload_n 1, 1) := by decide +kernel
theorem d_Model_meet_43 : decode b_Model_meet 43 = .ok (.iconst 1, 1) := by decide +kernel
theorem d_Model_meet_44 : decode b_Model_meet 44 = .ok (.iconst 1, 1) := by decide +kernel
theorem d_Model_meet_45 : decode b_Model_meet 45 = .ok (.invokevirtual 77, 3) := by decide +kernel
theorem d_Model_meet_48 : decode b_Model_meet 48 = .ok (.aload_n 0, 1) := by decide +kernel
theorem d_Model_meet_49 : decode b_Model_meet 49 = .ok (.getfield 38, 3) := by decide +kernel
theorem d_Model_meet_52 : decode b_Model_meet 52 = .ok (.iload 4, 2) := by decide +kernel
theorem d_Model_meet_54 : decode b_Model_meet 54 = .ok (.iaload, 1) := by decide +kernel
theorem d_Model_meet_55 : decode b_Model_meet 55 = .ok (.ifCond .ne 4, 3) := by decide +kernel
theorem d_Model_meet_58 : decode b_Model_meet 58 = .ok (.return_, 1) := by decide +kernel
theorem d_Model_meet_59 : decode b_Model_meet 59 = .ok (.aload_n 0, 1) := by decide +kernel
theorem d_Model_meet_60 : decode b_Model_meet 60 = .ok (.getfield 38, 3) := by decide +kernel
theorem d_Model_meet_63 : decode b_Model_meet 63 = .ok (.iload 4, 2) := by decide +kernel
theorem d_Model_meet_65 : decode b_Model_meet 65 = .ok (.iaload, 1) := by decide +kernel
theorem d_Model_meet_66 : decode b_Model_meet 66 = .ok (.iconst 2, 1) := by decide +kernel
theorem d_Model_meet_67 : decode b_Model_meet 67 = .ok (.if_icmp .ne 9, 3) := by decide +kernel
theorem d_Model_meet_70 : decode b_Model_meet 70 = .ok (.aload_n 0, 1) := by decide +kernel
theorem d_Model_meet_71 : decode b_Model_meet 71 = .ok (.iload 4, 2) := by decide +kernel
theorem d_Model_meet_73 : decode b_Model_meet 73 = .ok (.invokevirtual 81, 3) := by decide +kernel
theorem d_Model_meet_76 : decode b_Model_meet 76 = .ok (.aload_n 0, 1) := by decide +kernel
theorem d_Model_meet_77 : decode b_Model_meet 77 = .ok (.getfield 38, 3) := by decide +kernel
theorem d_Model_meet_80 : decode b_Model_meet 80 = .ok (.iload 4, 2) := by decide +kernel
theorem d_Model_meet_82 : decode b_Model_meet 82 = .ok (.iload_n 3, 1) := by decide +kernel
theorem d_Model_meet_83 : decode b_Model_meet 83 = .ok (.ifCond .eq 7, 3) := by decide +kernel
theorem d_Model_meet_86 : decode b_Model_meet 86 = .ok (.iconst 0, 1) := by decide +kernel
theorem d_Model_meet_87 : decode b_Model_meet 87 = .ok (.goto 4, 3) := by decide +kernel
theorem d_Model_meet_90 : decode b_Model_meet 90 = .ok (.iconst 1, 1) := by decide +kernel
theorem d_Model_meet_91 : decode b_Model_meet 91 = .ok (.iastore, 1) := by decide +kernel
theorem d_Model_meet_92 : decode b_Model_meet 92 = .ok (.return_, 1) := by decide +kernel
theorem d_Model_find_0 : decode b_Model_find 0 = .ok (.iconst (-1), 1) := by decide +kernel
theorem d_Model_find_1 : decode b_Model_find 1 = .ok (.istore_n 3, 1) := by decide +kernel
theorem d_Model_find_2 : decode b_Model_find 2 = .ok (.iconst 0, 1) := by decide +kernel
theorem d_Model_find_3 : decode b_Model_find 3 = .ok (.istore 4, 2) := by decide +kernel
theorem d_Model_find_5 : decode b_Model_find 5 = .ok (.iload 4, 2) := by decide +kernel
theorem d_Model_find_7 : decode b_Model_find 7 = .ok (.aload_n 0, 1) := by decide +kernel
theorem d_Model_find_8 : decode b_Model_find 8 = .ok (.getfield 63, 3) := by decide +kernel
theorem d_Model_find_11 : decode b_Model_find 11 = .ok (.if_icmp .ge 43, 3) := by decide +kernel
theorem d_Model_find_14 : decode b_Model_find 14 = .ok (.aload_n 0, 1) := by decide +kernel
theorem d_Model_find_15 : decode b_Model_find 15 = .ok (.iload_n 1, 1) := by decide +kernel
theorem d_Model_find_16 : decode b_Model_find 16 = .ok (.iload_n 2, 1) := by decide +kernel
theorem d_Model_find_17 : decode b_Model_find 17 = .ok (.iload 4, 2) := by decide +kernel
theorem d_Model_find_19 : decode b_Model_find 19 = .ok (.invokevirtual 69, 3) := by decide +kernel
theorem d_Model_find_22 : decode b_Model_find 22 = .ok (.istore 5, 2) := by decide +kernel
theorem d_Model_find_24 : decode b_Model_find 24 = .ok (.aload_n 0, 1) := by decide +kernel
theorem d_Model_find_25 : decode b_Model_find 25 = .ok (.getfield 38, 3) := by decide +kernel
theorem d_Model_find_28 : decode b_Model_find 28 = .ok (.iload 5, 2) := by decide +kernel
theorem d_Model_find_30 : decode b_Model_find 30 = .ok (.iaload, 1) := by decide +kernel
theorem d_Model_find_31 : decode b_Model_find 31 = .ok (.ifCond .eq 17, 3) := by decide +kernel
theorem d_Model_find_34 : decode b_Model_find 34 = .ok (.aload_n 0, 1) := by decide +kernel
theorem d_Model_find_35 : decode b_Model_find 35 = .ok (.getfield 41, 3) := by decide +kernel
theorem d_Model_find_38 : decode b_Model_find 38 = .ok (.iload 5, 2) := by decide +kernel
theorem d_Model_find_40 : decode b_Model_find 40 = .ok (.iaload, 1) := by decide +kernel
theorem d_Model_find_41 : decode b_Model_find 41 = .ok (.iload_n 2, 1) := by decide +kernel
theorem d_Model_find_42 : decode b_Model_find 42 = .ok (.if_icmp .ne 6, 3) := by decide +kernel
theorem d_Model_find_45 : decode b_Model_find 45 = .ok (.iload 5, 2) := by decide +kernel
theorem d_Model_find_47 : decode b_Model_find 47 = .ok (.istore_n 3, 1) := by decide +kernel
theorem d_Model_find_48 : decode b_Model_find 48 = .ok (.iinc 4 1, 3) := by decide +kernel
theorem d_Model_find_51 : decode b_Model_find 51 = .ok (.goto (-46), 3) := by decide +kernel
theorem d_Model_find_54 : decode b_Model_find 54 = .ok (.iload_n 3, 1) := by decide +kernel
theorem d_Model_find_55 : decode b_Model_find 55 = .ok (.ireturn, 1) := by decide +kernel
theorem d_Model_place_0 : decode b_Model_place 0 = .ok (.bipush 12, 2) := by decide +kernel
theorem d_Model_place_2 : decode b_Model_place 2 = .ok (.iload_n 1, 1) := by decide +kernel
theorem d_Model_place_3 : decode b_Model_place 3 = .ok (.imul, 1) := by decide +kernel
theorem d_Model_place_4 : decode b_Model_place 4 = .ok (.iconst 3, 1) := by decide +kernel
theorem d_Model_place_5 : decode b_Model_place 5 = .ok (.iload_n 2, 1) := by decide +kernel
theorem d_Model_place_6 : decode b_Model_place 6 = .ok (.aload_n 0, 1) := by decide +kernel
theorem d_Model_place_7 : decode b_Model_place 7 = .ok (.getfield 60, 3) := by decide +kernel
theorem d_Model_place_10 : decode b_Model_place 10 = .ok (.irem, 1) := by decide +kernel
theorem d_Model_place_11 : decode b_Model_place 11 = .ok (.imul, 1) := by decide +kernel
theorem d_Model_place_12 : decode b_Model_place 12 = .ok (.iadd, 1) := by decide +kernel
theorem d_Model_place_13 : decode b_Model_place 13 = .ok (.iload_n 3, 1) := by decide +kernel
theorem d_Model_place_14 : decode b_Model_place 14 = .ok (.iadd, 1) := by decide +kernel
theorem d_Model_place_15 : decode b_Model_place 15 = .ok (.ireturn, 1) := by decide +kernel
theorem d_Model_abort_0 : decode b_Model_abort 0 = .ok (.bipush 12, 2) := by decide +kernel
theorem d_Model_abort_2 : decode b_Model_abort 2 = .ok (.iload_n 1, 1) := by decide +kernel
theorem d_Model_abort_3 : decode b_Model_abort 3 = .ok (.imul, 1) := by decide +kernel
theorem d_Model_abort_4 : decode b_Model_abort 4 = .ok (.istore 4, 2) := by decide +kernel
theorem d_Model_abort_6 : decode b_Model_abort 6 = .ok (.iload 4, 2) := by decide +kernel
theorem d_Model_abort_8 : decode b_Model_abort 8 = .ok (.bipush 12, 2) := by decide +kernel
theorem d_Model_abort_10 : decode b_Model_abort 10 = .ok (.iload_n 1, 1) := by decide +kernel
theorem d_Model_abort_11 : decode b_Model_abort 11 = .ok (.imul, 1) := by decide +kernel
theorem d_Model_abort_12 : decode b_Model_abort 12 = .ok (.bipush 12, 2) := by decide +kernel
theorem d_Model_abort_14 : decode b_Model_abort 14 = .ok (.iadd, 1) := by decide +kernel
theorem d_Model_abort_15 : decode b_Model_abort 15 = .ok (.if_icmp .ge 37, 3) := by decide +kernel
theorem d_Model_abort_18 : decode b_Model_abort 18 = .ok (.aload_n 0, 1) := by decide +kernel
theorem d_Model_abort_19 : decode b_Model_abort 19 = .ok (.getfield 44, 3) := by decide +kernel
theorem d_Model_abort_22 : decode b_Model_abort 22 = .ok (.iload 4, 2) := by decide +kernel
theorem d_Model_abort_24 : decode b_Model_abort 24 = .ok (.iaload, 1) := by decide +kernel
theorem d_Model_abort_25 : decode b_Model_abort 25 = .ok (.iconst 2, 1) := by decide +kernel
theorem d_Model_abort_26 : decode b_Model_abort 26 = .ok (.iand, 1) := by decide +kernel
theorem d_Model_abort_27 : decode b_Model_abort 27 = .ok (.ifCond .eq 11, 3) := by decide +kernel
theorem d_Model_abort_30 : decode b_Model_abort 30 = .ok (.aload_n 0, 1) := by decide +kernel
theorem d_Model_abort_31 : decode b_Model_abort 31 = .ok (.getfield 38, 3) := by decide +kernel
theorem d_Model_abort_34 : decode b_Model_abort 34 = .ok (.iload 4, 2) := by decide +kernel
theorem d_Model_abort_36 : decode b_Model_abort 36 = .ok (.iconst 0, 1) := by decide +kernel
theorem d_Model_abort_37 : decode b_Model_abort 37 = .ok (.iastore, 1) := by decide +kernel
theorem d_Model_abort_38 : decode b_Model_abort 38 = .ok (.aload_n 0, 1) := by decide +kernel
theorem d_Model_abort_39 : decode b_Model_abort 39 = .ok (.getfield 44, 3) := by decide +kernel
theorem d_Model_abort_42 : decode b_Model_abort 42 = .ok (.iload 4, 2) := by decide +kernel
theorem d_Model_abort_44 : decode b_Model_abort 44 = .ok (.iconst 0, 1) := by decide +kernel
theorem d_Model_abort_45 : decode b_Model_abort 45 = .ok (.iastore, 1) := by decide +kernel
theorem d_Model_abort_46 : decode b_Model_abort 46 = .ok (.iinc 4 1, 3) := by decide +kernel
theorem d_Model_abort_49 : decode b_Model_abort 49 = .ok (.goto (-43), 3) := by decide +kernel
theorem d_Model_abort_52 : decode b_Model_abort 52 = .ok (.iconst 0, 1) := by decide +kernel
theorem d_Model_abort_53 : decode b_Model_abort 53 = .ok (.istore 4, 2) := by decide +kernel
theorem d_Model_abort_55 : decode b_Model_abort 55 = .ok (.iload 4, 2) := by decide +kernel
theorem d_Model_abort_57 : decode b_Model_abort 57 = .ok (.bipush 8, 2) := by decide +kernel
theorem d_Model_abort_59 : decode b_Model_abort 59 = .ok (.if_icmp .ge 33, 3) := by decide +kernel
theorem d_Model_abort_62 : decode b_Model_abort 62 = .ok (.aload_n 0, 1) := by decide +kernel
theorem d_Model_abort_63 : decode b_Model_abort 63 = .ok (.getfield 13, 3) := by decide +kernel
theorem d_Model_abort_66 : decode b_Model_abort 66 = .ok (.bipush 8, 2) := by decide +kernel
theorem d_Model_abort_68 : decode b_Model_abort 68 = .ok (.iload_n 1, 1) := by decide +kernel
theorem d_Model_abort_69 : decode b_Model_abort 69 = .ok (.imul, 1) := by decide +kernel
theorem d_Model_abort_70 : decode b_Model_abort 70 = .ok (.iload 4, 2) := by decide +kernel
theorem d_Model_abort_72 : decode b_Model_abort 72 = .ok (.iadd, 1) := by decide +kernel
theorem d_Model_abort_73 : decode b_Model_abort 73 = .ok (.aload_n 0, 1) := by decide +kernel
theorem d_Model_abort_74 : decode b_Model_abort 74 = .ok (.getfield 16, 3) := by decide +kernel
theorem d_Model_abort_77 : decode b_Model_abort 77 = .ok (.bipush 8, 2) := by decide +kernel
theorem d_Model_abort_79 : decode b_Model_abort 79 = .ok (.iload_n 1, 1) := by decide +kernel
theorem d_Model_abort_80 : decode b_Model_abort 80 = .ok (.imul, 1) := by decide +kernel
theorem d_Model_abort_81 : decode b_Model_abort 81 = .ok (.iload 4, 2) := by decide +kernel
theorem d_Model_abort_83 : decode b_Model_abort 83 = .ok (.iadd, 1) := by decide +kernel
theorem d_Model_abort_84 : decode b_Model_abort 84 = .ok (.iaload, 1) := by decide +kernel
theorem d_Model_abort_85 : decode b_Model_abort 85 = .ok (.iastore, 1) := by decide +kernel
theorem d_Model_abort_86 : decode b_Model_abort 86 = .ok (.iinc 4 1, 3) := by decide +kernel
theorem d_Model_abort_89 : decode b_Model_abort 89 = .ok (.goto (-34), 3) := by decide +kernel
theorem d_Model_abort_92 : decode b_Model_abort 92 = .ok (.aload_n 0, 1) := by decide +kernel
theorem d_Model_abort_93 : decode b_Model_abort 93 = .ok (.getfield 13, 3) := by decide +kernel
theorem d_Model_abort_96 : decode b_Model_abort 96 = .ok (.bipush 8, 2) := by decide +kernel
theorem d_Model_abort_98 : decode b_Model_abort 98 = .ok (.iload_n 1, 1) := by decide +kernel
theorem d_Model_abort_99 : decode b_Model_abort 99 = .ok (.imul, 1) := by decide +kernel
theorem d_Model_abort_100 : decode b_Model_abort 100 = .ok (.bipush 7, 2) := by decide +kernel
theorem d_Model_abort_102 : decode b_Model_abort 102 = .ok (.iadd, 1) := by decide +kernel
theorem d_Model_abort_103 : decode b_Model_abort 103 = .ok (.iload_n 3, 1) := by decide +kernel
theorem d_Model_abort_104 : decode b_Model_abort 104 = .ok (.iastore, 1) := by decide +kernel
theorem d_Model_abort_105 : decode b_Model_abort 105 = .ok (.aload_n 0, 1) := by decide +kernel
theorem d_Model_abort_106 : decode b_Model_abort 106 = .ok (.getfield 22, 3) := by decide +kernel
theorem d_Model_abort_109 : decode b_Model_abort 109 = .ok (.iload_n 1, 1) := by decide +kernel
theorem d_Model_abort_110 : decode b_Model_abort 110 = .ok (.aload_n 0, 1) := by decide +kernel
theorem d_Model_abort_111 : decode b_Model_abort 111 = .ok (.getfield 28, 3) := by decide +kernel
theorem d_Model_abort_114 : decode b_Model_abort 114 = .ok (.iload_n 1, 1) := by decide +kernel
theorem d_Model_abort_115 : decode b_Model_abort 115 = .ok (.iaload, 1) := by decide +kernel
theorem d_Model_abort_116 : decode b_Model_abort 116 = .ok (.iastore, 1) := by decide +kernel
theorem d_Model_abort_117 : decode b_Model_abort 117 = .ok (.aload_n 0, 1) := by decide +kernel
theorem d_Model_abort_118 : decode b_Model_abort 118 = .ok (.getfield 25, 3) := by decide +kernel
theorem d_Model_abort_121 : decode b_Model_abort 121 = .ok (.iload_n 1, 1) := by decide +kernel
theorem d_Model_abort_122 : decode b_Model_abort 122 = .ok (.iconst 0, 1) := by decide +kernel
theorem d_Model_abort_123 : decode b_Model_abort 123 = .ok (.iastore, 1) := by decide +kernel
theorem d_Model_abort_124 : decode b_Model_abort 124 = .ok (.aload_n 0, 1) := by decide +kernel
theorem d_Model_abort_125 : decode b_Model_abort 125 = .ok (.getfield 35, 3) := by decide +kernel
theorem d_Model_abort_128 : decode b_Model_abort 128 = .ok (.bipush 6, 2) := by decide +kernel
theorem d_Model_abort_130 : decode b_Model_abort 130 = .ok (.iload_n 1, 1) := by decide +kernel
theorem d_Model_abort_131 : decode b_Model_abort 131 = .ok (.imul, 1) := by decide +kernel
theorem d_Model_abort_132 : decode b_Model_abort 132 = .ok (.iload_n 2, 1) := by decide +kernel
theorem d_Model_abort_133 : decode b_Model_abort 133 = .ok (.iadd, 1) := by decide +kernel
theorem d_Model_abort_134 : decode b_Model_abort 134 = .ok (.dup2, 1) := by decide +kernel
theorem d_Model_abort_135 : decode b_Model_abort 135 = .ok (.iaload, 1) := by decide +kernel
theorem d_Model_abort_136 : decode b_Model_abort 136 = .ok (.iconst 1, 1) := by decide +kernel
theorem d_Model_abort_137 : decode b_Model_abort 137 = .ok (.iadd, 1) := by decide +kernel
theorem d_Model_abort_138 : decode b_Model_abort 138 = .ok (.iastore, 1) := by decide +kernel
theorem d_Model_abort_139 : decode b_Model_abort 139 = .ok (.return_, 1) := by decide +kernel
theorem d_Model_toMemory_0 : decode b_Model_toMemory 0 = .ok (.aload_n 0, 1) := by decide +kernel
theorem d_Model_toMemory_1 : decode b_Model_toMemory 1 = .ok (.getfield 7, 3) := by decide +kernel
theorem d_Model_toMemory_4 : decode b_Model_toMemory 4 = .ok (.iconst 2, 1) := by decide +kernel
theorem d_Model_toMemory_5 : decode b_Model_toMemory 5 = .ok (.aload_n 0, 1) := by decide +kernel
theorem d_Model_toMemory_6 : decode b_Model_toMemory 6 = .ok (.getfield 41, 3) := by decide +kernel
theorem d_Model_toMemory_9 : decode b_Model_toMemory 9 = .ok (.iload_n 1, 1) := by decide +kernel
theorem d_Model_toMemory_10 : decode b_Model_toMemory 10 = .ok (.iaload, 1) := by decide +kernel
theorem d_Model_toMemory_11 : decode b_Model_toMemory 11 = .ok (.imul, 1) := by decide +kernel
theorem d_Model_toMemory_12 : decode b_Model_toMemory 12 = .ok (.aload_n 0, 1) := by decide +kernel
theorem d_Model_toMemory_13 : decode b_Model_toMemory 13 = .ok (.getfield 47, 3) := by decide +kernel
theorem d_Model_toMemory_16 : decode b_Model_toMemory 16 = .ok (.iload_n 1, 1) := by decide +kernel
theorem d_Model_toMemory_17 : decode b_Model_toMemory 17 = .ok (.iaload, 1) := by decide +kernel
theorem d_Model_toMemory_18 : decode b_Model_toMemory 18 = .ok (.iastore, 1) := by decide +kernel
theorem d_Model_toMemory_19 : decode b_Model_toMemory 19 = .ok (.aload_n 0, 1) := by decide +kernel
theorem d_Model_toMemory_20 : decode b_Model_toMemory 20 = .ok (.getfield 7, 3) := by decide +kernel
theorem d_Model_toMemory_23 : decode b_Model_toMemory 23 = .ok (.iconst 2, 1) := by decide +kernel
theorem d_Model_toMemory_24 : decode b_Model_toMemory 24 = .ok (.aload_n 0, 1) := by decide +kernel
theorem d_Model_toMemory_25 : decode b_Model_toMemory 25 = .ok (.getfield 41, 3) := by decide +kernel
theorem d_Model_toMemory_28 : decode b_Model_toMemory 28 = .ok (.iload_n 1, 1) := by decide +kernel
theorem d_Model_toMemory_29 : decode b_Model_toMemory 29 = .ok (.iaload, 1) := by decide +kernel
theorem d_Model_toMemory_30 : decode b_Model_toMemory 30 = .ok (.imul, 1) := by decide +kernel
theorem d_Model_toMemory_31 : decode b_Model_toMemory 31 = .ok (.iconst 1, 1) := by decide +kernel
theorem d_Model_toMemory_32 : decode b_Model_toMemory 32 = .ok (.iadd, 1) := by decide +kernel
theorem d_Model_toMemory_33 : decode b_Model_toMemory 33 = .ok (.aload_n 0, 1) := by decide +kernel
theorem d_Model_toMemory_34 : decode b_Model_toMemory 34 = .ok (.getfield 50, 3) := by decide +kernel
theorem d_Model_toMemory_37 : decode b_Model_toMemory 37 = .ok (.iload_n 1, 1) := by decide +kernel
theorem d_Model_toMemory_38 : decode b_Model_toMemory 38 = .ok (.iaload, 1) := by decide +kernel
theorem d_Model_toMemory_39 : decode b_Model_toMemory 39 = .ok (.iastore, 1) := by decide +kernel
theorem d_Model_toMemory_40 : decode b_Model_toMemory 40 = .ok (.return_, 1) := by decide +kernel
theorem d_Model_peek_0 : decode b_Model_peek 0 = .ok (.aload_n 0, 1) := by decide +kernel
theorem d_Model_peek_1 : decode b_Model_peek 1 = .ok (.iconst 0, 1) := by decide +kernel
theorem d_Model_peek_2 : decode b_Model_peek 2 = .ok (.putfield 66, 3) := by decide +kernel
theorem d_Model_peek_5 : decode b_Model_peek 5 = .ok (.iload_n 1, 1) := by decide +kernel
theorem d_Model_peek_6 : decode b_Model_peek 6 = .ok (.bipush 63, 2) := by decide +kernel
theorem d_Model_peek_8 : decode b_Model_peek 8 = .ok (.iand, 1) := by decide +kernel
theorem d_Model_peek_9 : decode b_Model_peek 9 = .ok (.iconst 2, 1) := by decide +kernel
theorem d_Model_peek_10 : decode b_Model_peek 10 = .ok (.idiv, 1) := by decide +kernel
theorem d_Model_peek_11 : decode b_Model_peek 11 = .ok (.istore_n 2, 1) := by decide +kernel
theorem d_Model_peek_12 : decode b_Model_peek 12 = .ok (.aload_n 0, 1) := by decide +kernel
theorem d_Model_peek_13 : decode b_Model_peek 13 = .ok (.getfield 7, 3) := by decide +kernel
theorem d_Model_peek_16 : decode b_Model_peek 16 = .ok (.iload_n 1, 1) := by decide +kernel
theorem d_Model_peek_17 : decode b_Model_peek 17 = .ok (.bipush 63, 2) := by decide +kernel
theorem d_Model_peek_19 : decode b_Model_peek 19 = .ok (.iand, 1) := by decide +kernel
theorem d_Model_peek_20 : decode b_Model_peek 20 = .ok (.iaload, 1) := by decide +kernel
theorem d_Model_peek_21 : decode b_Model_peek 21 = .ok (.istore_n 3, 1) := by decide +kernel
theorem d_Model_peek_22 : decode b_Model_peek 22 = .ok (.iconst 0, 1) := by decide +kernel
theorem d_Model_peek_23 : decode b_Model_peek 23 = .ok (.istore 4, 2) := by decide +kernel
theorem d_Model_peek_25 : decode b_Model_peek 25 = .ok (.iload 4, 2) := by decide +kernel
theorem d_Model_peek_27 : decode b_Model_peek 27 = .ok (.aload_n 0, 1) := by decide +kernel
theorem d_Model_peek_28 : decode b_Model_peek 28 = .ok (.getfield 56, 3) := by decide +kernel
theorem d_Model_peek_31 : decode b_Model_peek 31 = .ok (.if_icmp .ge 71, 3) := by decide +kernel
theorem d_Model_peek_34 : decode b_Model_peek 34 = .ok (.aload_n 0, 1) := by decide +kernel
theorem d_Model_peek_35 : decode b_Model_peek 35 = .ok (.iload 4, 2) := by decide +kernel
theorem d_Model_peek_37 : decode b_Model_peek 37 = .ok (.iload_n 2, 1) := by decide +kernel
theorem d_Model_peek_38 : decode b_Model_peek 38 = .ok (.invokevirtual 73, 3) := by decide +kernel
theorem d_Model_peek_41 : decode b_Model_peek 41 = .ok (.istore 5, 2) := by decide +kernel
theorem d_Model_peek_43 : decode b_Model_peek 43 = .ok (.iload 5, 2) := by decide +kernel
theorem d_Model_peek_45 : decode b_Model_peek 45 = .ok (.iconst (-1), 1) := by decide +kernel
theorem d_Model_peek_46 : decode b_Model_peek 46 = .ok (.if_icmp .eq 50, 3) := by decide +kernel
theorem d_Model_peek_49 : decode b_Model_peek 49 = .ok (.aload_n 0, 1) := by decide +kernel
theorem d_Model_peek_50 : decode b_Model_peek 50 = .ok (.getfield 38, 3) := by decide +kernel
theorem d_Model_peek_53 : decode b_Model_peek 53 = .ok (.iload 5, 2) := by decide +kernel
theorem d_Model_peek_55 : decode b_Model_peek 55 = .ok (.iaload, 1) := by decide +kernel
theorem d_Model_peek_56 : decode b_Model_peek 56 = .ok (.iconst 2, 1) := by decide +kernel
theorem d_Model_peek_57 : decode b_Model_peek 57 = .ok (.if_icmp .ne 39, 3) := by decide +kernel
theorem d_Model_peek_60 : decode b_Model_peek 60 = .ok (.aload_n 0, 1) := by decide +kernel
theorem d_Model_peek_61 : decode b_Model_peek 61 = .ok (.getfield 44, 3) := by decide +kernel
theorem d_Model_peek_64 : decode b_Model_peek 64 = .ok (.iload 5, 2) := by decide +kernel
theorem d_Model_peek_66 : decode b_Model_peek 66 = .ok (.iaload, 1) := by decide +kernel
theorem d_Model_peek_67 : decode b_Model_peek 67 = .ok (.iconst 2, 1) := by decide +kernel
theorem d_Model_peek_68 : decode b_Model_peek 68 = .ok (.iand, 1) := by decide +kernel
theorem d_Model_peek_69 : decode b_Model_peek 69 = .ok (.ifCond .ne 27, 3) := by decide +kernel
theorem d_Model_peek_72 : decode b_Model_peek 72 = .ok (.iload_n 1, 1) := by decide +kernel
theorem d_Model_peek_73 : decode b_Model_peek 73 = .ok (.iconst 1, 1) := by decide +kernel
theorem d_Model_peek_74 : decode b_Model_peek 74 = .ok (.iand, 1) := by decide +kernel
theorem d_Model_peek_75 : decode b_Model_peek 75 = .ok (.ifCond .ne 13, 3) := by decide +kernel
theorem d_Model_peek_78 : decode b_Model_peek 78 = .ok (.aload_n 0, 1) := by decide +kernel
theorem d_Model_peek_79 : decode b_Model_peek 79 = .ok (.getfield 47, 3) := by decide +kernel
theorem d_Model_peek_82 : decode b_Model_peek 82 = .ok (.iload 5, 2) := by decide +kernel
theorem d_Model_peek_84 : decode b_Model_peek 84 = .ok (.iaload, 1) := by decide +kernel
theorem d_Model_peek_85 : decode b_Model_peek 85 = .ok (.goto 10, 3) := by decide +kernel
theorem d_Model_peek_88 : decode b_Model_peek 88 = .ok (.aload_n 0, 1) := by decide +kernel
theorem d_Model_peek_89 : decode b_Model_peek 89 = .ok (.getfield 50, 3) := by decide +kernel
theorem d_Model_peek_92 : decode b_Model_peek 92 = .ok (.iload 5, 2) := by decide +kernel
theorem d_Model_peek_94 : decode b_Model_peek 94 = .ok (.iaload, 1) := by decide +kernel
theorem d_Model_peek_95 : decode b_Model_peek 95 = .ok (.istore_n 3, 1) := by decide +kernel
theorem d_Model_peek_96 : decode b_Model_peek 96 = .ok (.iinc 4 1, 3) := by decide +kernel
theorem d_Model_peek_99 : decode b_Model_peek 99 = .ok (.goto (-74), 3) := by decide +kernel
theorem d_Model_peek_102 : decode b_Model_peek 102 = .ok (.iload_n 3, 1) := by decide +kernel
theorem d_Model_peek_103 : decode b_Model_peek 103 = .ok (.ireturn, 1) := by decide +kernel
theorem d_Model_step_0 : decode b_Model_step 0 = .ok (.aload_n 0, 1) := by decide +kernel
theorem d_Model_step_1 : decode b_Model_step 1 = .ok (.aload_n 0, 1) := by decide +kernel
theorem d_Model_step_2 : decode b_Model_step 2 = .ok (.iload_n 1, 1) := by decide +kernel
theorem d_Model_step_3 : decode b_Model_step 3 = .ok (.invokevirtual 98, 3) := by decide +kernel
theorem d_Model_step_6 : decode b_Model_step 6 = .ok (.ifCond .eq 7, 3) := by decide +kernel
theorem d_Model_step_9 : decode b_Model_step 9 = .ok (.iconst 0, 1) := by decide +kernel
theorem d_Model_step_10 : decode b_Model_step 10 = .ok (.goto 4, 3) := by decide +kernel
theorem d_Model_step_13 : decode b_Model_step 13 = .ok (.iconst 1, 1) := by decide +kernel
theorem d_Model_step_14 : decode b_Model_step 14 = .ok (.putfield 66, 3) := by decide +kernel
theorem d_Model_step_17 : decode b_Model_step 17 = .ok (.aload_n 0, 1) := by decide +kernel
theorem d_Model_step_18 : decode b_Model_step 18 = .ok (.getfield 66, 3) := by decide +kernel
theorem d_Model_step_21 : decode b_Model_step 21 = .ok (.ifCond .ne 11, 3) := by decide +kernel
theorem d_Model_step_24 : decode b_Model_step 24 = .ok (.aload_n 0, 1) := by decide +kernel
theorem d_Model_step_25 : decode b_Model_step 25 = .ok (.iload_n 1, 1) := by decide +kernel
theorem d_Model_step_26 : decode b_Model_step 26 = .ok (.invokevirtual 117, 3) := by decide +kernel
theorem d_Model_step_29 : decode b_Model_step 29 = .ok (.goto 4, 3) := by decide +kernel
theorem d_Model_step_32 : decode b_Model_step 32 = .ok (.iconst 0, 1) := by decide +kernel
theorem d_Model_step_33 : decode b_Model_step 33 = .ok (.ireturn, 1) := by decide +kernel
theorem d_Model_stepped_0 : decode b_Model_stepped 0 = .ok (.aload_n 0, 1) := by decide +kernel
theorem d_Model_stepped_1 : decode b_Model_stepped 1 = .ok (.getfield 31, 3) := by decide +kernel
theorem d_Model_stepped_4 : decode b_Model_stepped 4 = .ok (.iload_n 1, 1) := by decide +kernel
theorem d_Model_stepped_5 : decode b_Model_stepped 5 = .ok (.baload, 1) := by decide +kernel
theorem d_Model_stepped_6 : decode b_Model_stepped 6 = .ok (.ifCond .eq 5, 3) := by decide +kernel
theorem d_Model_stepped_9 : decode b_Model_stepped 9 = .ok (.iconst 0, 1) := by decide +kernel
theorem d_Model_stepped_10 : decode b_Model_stepped 10 = .ok (.ireturn, 1) := by decide +kernel
theorem d_Model_stepped_11 : decode b_Model_stepped 11 = .ok (.aload_n 0, 1) := by decide +kernel
theorem d_Model_stepped_12 : decode b_Model_stepped 12 = .ok (.getfield 19, 3) := by decide +kernel
theorem d_Model_stepped_15 : decode b_Model_stepped 15 = .ok (.bipush 16, 2) := by decide +kernel
theorem d_Model_stepped_17 : decode b_Model_stepped 17 = .ok (.iload_n 1, 1) := by decide +kernel
theorem d_Model_stepped_18 : decode b_Model_stepped 18 = .ok (.imul, 1) := by decide +kernel
theorem d_Model_stepped_19 : decode b_Model_stepped 19 = .ok (.aload_n 0, 1) := by decide +kernel
theorem d_Model_stepped_20 : decode b_Model_stepped 20 = .ok (.getfield 22, 3) := by decide +kernel
theorem d_Model_stepped_23 : decode b_Model_stepped 23 = .ok (.iload_n 1, 1) := by decide +kernel
theorem d_Model_stepped_24 : decode b_Model_stepped 24 = .ok (.iaload, 1) := by decide +kernel
theorem d_Model_stepped_25 : decode b_Model_stepped 25 = .ok (.iadd, 1) := by decide +kernel
theorem d_Model_stepped_26 : decode b_Model_stepped 26 = .ok (.iaload, 1) := by decide +kernel
theorem d_Model_stepped_27 : decode b_Model_stepped 27 = .ok (.istore_n 2, 1) := by decide +kernel
theorem d_Model_stepped_28 : decode b_Model_stepped 28 = .ok (.bipush 8, 2) := by decide +kernel
theorem d_Model_stepped_30 : decode b_Model_stepped 30 = .ok (.iload_n 1, 1) := by decide +kernel
theorem d_Model_stepped_31 : decode b_Model_stepped 31 = .ok (.imul, 1) := by decide +kernel
theorem d_Model_stepped_32 : decode b_Model_stepped 32 = .ok (.istore_n 3, 1) := by decide +kernel
theorem d_Model_stepped_33 : decode b_Model_stepped 33 = .ok (.iload_n 3, 1) := by decide +kernel
theorem d_Model_stepped_34 : decode b_Model_stepped 34 = .ok (.iload_n 2, 1) := by decide +kernel
theorem d_Model_stepped_35 : decode b_Model_stepped 35 = .ok (.iconst 4, 1) := by decide +kernel
theorem d_Model_stepped_36 : decode b_Model_stepped 36 = .ok (.ishr, 1) := by decide +kernel
theorem d_Model_stepped_37 : decode b_Model_stepped 37 = .ok (.bipush 7, 2) := by decide +kernel
theorem d_Model_stepped_39 : decode b_Model_stepped 39 = .ok (.iand, 1) := by decide +kernel
theorem d_Model_stepped_40 : decode b_Model_stepped 40 = .ok (.iadd, 1) := by decide +kernel
theorem d_Model_stepped_41 : decode b_Model_stepped 41 = .ok (.istore 4, 2) := by decide +kernel
theorem d_Model_stepped_43 : decode b_Model_stepped 43 = .ok (.iload_n 3, 1) := by decide +kernel
theorem d_Model_stepped_44 : decode b_Model_stepped 44 = .ok (.iload_n 2, 1) := by decide +kernel
theorem d_Model_stepped_45 : decode b_Model_stepped 45 = .ok (.bipush 7, 2) := by decide +kernel
theorem d_Model_stepped_47 : decode b_Model_stepped 47 = .ok (.ishr, 1) := by decide +kernel
theorem d_Model_stepped_48 : decode b_Model_stepped 48 = .ok (.bipush 7, 2) := by decide +kernel
theorem d_Model_stepped_50 : decode b_Model_stepped 50 = .ok (.iand, 1) := by decide +kernel
theorem d_Model_stepped_51 : decode b_Model_stepped 51 = .ok (.iadd, 1) := by decide +kernel
theorem d_Model_stepped_52 : decode b_Model_stepped 52 = .ok (.istore 5, 2) := by decide +kernel
theorem d_Model_stepped_54 : decode b_Model_stepped 54 = .ok (.iload_n 2, 1) := by decide +kernel
theorem d_Model_stepped_55 : decode b_Model_stepped 55 = .ok (.bipush 11, 2) := by decide +kernel
theorem d_Model_stepped_57 : decode b_Model_stepped 57 = .ok (.ishr, 1) := by decide +kernel
theorem d_Model_stepped_58 : decode b_Model_stepped 58 = .ok (.istore 6, 2) := by decide +kernel
theorem d_Model_stepped_60 : decode b_Model_stepped 60 = .ok (.iload_n 3, 1) := by decide +kernel
theorem d_Model_stepped_61 : decode b_Model_stepped 61 = .ok (.iload 6, 2) := by decide +kernel
theorem d_Model_stepped_63 : decode b_Model_stepped 63 = .ok (.bipush 7, 2) := by decide +kernel
theorem d_Model_stepped_65 : decode b_Model_stepped 65 = .ok (.iand, 1) := by decide +kernel
theorem d_Model_stepped_66 : decode b_Model_stepped 66 = .ok (.iadd, 1) := by decide +kernel
theorem d_Model_stepped_67 : decode b_Model_stepped 67 = .ok (.istore 7, 2) := by decide +kernel
theorem d_Model_stepped_69 : decode b_Model_stepped 69 = .ok (.iload_n 2, 1) := by decide +kernel
theorem d_Model_stepped_70 : decode b_Model_stepped 70 = .ok (.bipush 15, 2) := by decide +kernel
theorem d_Model_stepped_72 : decode b_Model_stepped 72 = .ok (.iand, 1) := by decide +kernel
theorem d_Model_stepped_73 : decode b_Model_stepped 73 = .ok (.istore 8, 2) := by decide +kernel
theorem d_Model_stepped_75 : decode b_Model_stepped 75 = .ok (.iload 8, 2) := by decide +kernel
theorem d_Model_stepped_77 : decode b_Model_stepped 77 = .ok (.ifCond .ne 5, 3) := by decide +kernel
theorem d_Model_stepped_80 : decode b_Model_stepped 80 = .ok (.iconst 1, 1) := by decide +kernel
theorem d_Model_stepped_81 : decode b_Model_stepped 81 = .ok (.ireturn, 1) := by decide +kernel
theorem d_Model_stepped_82 : decode b_Model_stepped 82 = .ok (.aload_n 0, 1) := by decide +kernel
theorem d_Model_stepped_83 : decode b_Model_stepped 83 = .ok (.getfield 22, 3) := by decide +kernel
theorem d_Model_stepped_86 : decode b_Model_stepped 86 = .ok (.iload_n 1, 1) := by decide +kernel
theorem d_Model_stepped_87 : decode b_Model_stepped 87 = .ok (.aload_n 0, 1) := by decide +kernel
theorem d_Model_stepped_88 : decode b_Model_stepped 88 = .ok (.getfield 22, 3) := by decide +kernel
theorem d_Model_stepped_91 : decode b_Model_stepped 91 = .ok (.iload_n 1, 1) := by decide +kernel
theorem d_Model_stepped_92 : decode b_Model_stepped 92 = .ok (.iaload, 1) := by decide +kernel
theorem d_Model_stepped_93 : decode b_Model_stepped 93 = .ok (.iconst 1, 1) := by decide +kernel
theorem d_Model_stepped_94 : decode b_Model_stepped 94 = .ok (.iadd, 1) := by decide +kernel
theorem d_Model_stepped_95 : decode b_Model_stepped 95 = .ok (.bipush 15, 2) := by decide +kernel
theorem d_Model_stepped_97 : decode b_Model_stepped 97 = .ok (.iand, 1) := by decide +kernel
theorem d_Model_stepped_98 : decode b_Model_stepped 98 = .ok (.iastore, 1) := by decide +kernel
theorem d_Model_stepped_99 : decode b_Model_stepped 99 = .ok (.iload 8, 2) := by decide +kernel
theorem d_Model_stepped_101 : decode b_Model_stepped 101 = .ok (.iconst 5, 1) := by decide +kernel
theorem d_Model_stepped_102 : decode b_Model_stepped 102 = .ok (.if_icmp .eq 10, 3) := by decide +kernel
theorem d_Model_stepped_105 : decode b_Model_stepped 105 = .ok (.iload 8, 2) := by decide +kernel
theorem d_Model_stepped_107 : decode b_Model_stepped 107 = .ok (.bipush 6, 2) := by decide +kernel
theorem d_Model_stepped_109 : decode b_Model_stepped 109 = .ok (.if_icmp .ne 33, 3) := by decide +kernel
theorem d_Model_stepped_112 : decode b_Model_stepped 112 = .ok (.aload_n 0, 1) := by decide +kernel
theorem d_Model_stepped_113 : decode b_Model_stepped 113 = .ok (.iload_n 1, 1) := by decide +kernel
theorem d_Model_stepped_114 : decode b_Model_stepped 114 = .ok (.iload 4, 2) := by decide +kernel
theorem d_Model_stepped_116 : decode b_Model_stepped 116 = .ok (.aload_n 0, 1) := by decide +kernel
theorem d_Model_stepped_117 : decode b_Model_stepped 117 = .ok (.getfield 13, 3) := by decide +kernel
theorem d_Model_stepped_120 : decode b_Model_stepped 120 = .ok (.iload 5, 2) := by decide +kernel
theorem d_Model_stepped_122 : decode b_Model_stepped 122 = .ok (.iaload, 1) := by decide +kernel
theorem d_Model_stepped_123 : decode b_Model_stepped 123 = .ok (.iload 6, 2) := by decide +kernel
theorem d_Model_stepped_125 : decode b_Model_stepped 125 = .ok (.iadd, 1) := by decide +kernel
theorem d_Model_stepped_126 : decode b_Model_stepped 126 = .ok (.iload 8, 2) := by decide +kernel
theorem d_Model_stepped_128 : decode b_Model_stepped 128 = .ok (.bipush 6, 2) := by decide +kernel
theorem d_Model_stepped_130 : decode b_Model_stepped 130 = .ok (.if_icmp .ne 7, 3) := by decide +kernel
theorem d_Model_stepped_133 : decode b_Model_stepped 133 = .ok (.iconst 1, 1) := by decide +kernel
theorem d_Model_stepped_134 : decode b_Model_stepped 134 = .ok (.goto 4, 3) := by decide +kernel
theorem d_Model_stepped_137 : decode b_Model_stepped 137 = .ok (.iconst 0, 1) := by decide +kernel
theorem d_Model_stepped_138 : decode b_Model_stepped 138 = .ok (.invokevirtual 102, 3) := by decide +kernel
theorem d_Model_stepped_141 : decode b_Model_stepped 141 = .ok (.ireturn, 1) := by decide +kernel
theorem d_Model_stepped_142 : decode b_Model_stepped 142 = .ok (.iload 8, 2) := by decide +kernel
theorem d_Model_stepped_144 : decode b_Model_stepped 144 = .ok (.bipush 8, 2) := by decide +kernel
theorem d_Model_stepped_146 : decode b_Model_stepped 146 = .ok (.if_icmp .le 20, 3) := by decide +kernel
theorem d_Model_stepped_149 : decode b_Model_stepped 149 = .ok (.iload 8, 2) := by decide +kernel
theorem d_Model_stepped_151 : decode b_Model_stepped 151 = .ok (.bipush 12, 2) := by decide +kernel
theorem d_Model_stepped_153 : decode b_Model_stepped 153 = .ok (.if_icmp .ge 13, 3) := by decide +kernel
theorem d_Model_stepped_156 : decode b_Model_stepped 156 = .ok (.aload_n 0, 1) := by decide +kernel
theorem d_Model_stepped_157 : decode b_Model_stepped 157 = .ok (.iload_n 1, 1) := by decide +kernel
theorem d_Model_stepped_158 : decode b_Model_stepped 158 = .ok (.iload 8, 2) := by decide +kernel
theorem d_Model_stepped_160 : decode b_Model_stepped 160 = .ok (.iload 6, 2) := by decide +kernel
theorem d_Model_stepped_162 : decode b_Model_stepped 162 = .ok (.invokevirtual 106, 3) := by decide +kernel
theorem d_Model_stepped_165 : decode b_Model_stepped 165 = .ok (.ireturn, 1) := by decide +kernel
theorem d_Model_stepped_166 : decode b_Model_stepped 166 = .ok (.iload 8, 2) := by decide +kernel
theorem d_Model_stepped_168 : decode b_Model_stepped 168 = .ok (.tableswitch 251 1 13 #[68, 80, 105, 130, 251, 251, 155, 186, 251, 251, 251, 224, 240], 68) := by decide +kernel
theorem d_Model_stepped_236 : decode b_Model_stepped 236 = .ok (.aload_n 0, 1) := by decide +kernel
theorem d_Model_stepped_237 : decode b_Model_stepped 237 = .ok (.getfield 13, 3) := by decide +kernel
theorem d_Model_stepped_240 : decode b_Model_stepped 240 = .ok (.iload 4, 2) := by decide +kernel
theorem d_Model_stepped_242 : decode b_Model_stepped 242 = .ok (.iload 6, 2) := by decide +kernel
theorem d_Model_stepped_244 : decode b_Model_stepped 244 = .ok (.iastore, 1) := by decide +kernel
theorem d_Model_stepped_245 : decode b_Model_stepped 245 = .ok (.goto 180, 3) := by decide +kernel
theorem d_Model_stepped_248 : decode b_Model_stepped 248 = .ok (.aload_n 0, 1) := by decide +kernel
theorem d_Model_stepped_249 : decode b_Model_stepped 249 = .ok (.getfield 13, 3) := by decide +kernel
theorem d_Model_stepped_252 : decode b_Model_stepped 252 = .ok (.iload 4, 2) := by decide +kernel
theorem d_Model_stepped_254 : decode b_Model_stepped 254 = .ok (.aload_n 0, 1) := by decide +kernel
theorem d_Model_stepped_255 : decode b_Model_stepped 255 = .ok (.getfield 13, 3) := by decide +kernel
theorem d_Model_stepped_258 : decode b_Model_stepped 258 = .ok (.iload 5, 2) := by decide +kernel
theorem d_Model_stepped_260 : decode b_Model_stepped 260 = .ok (.iaload, 1) := by decide +kernel
theorem d_Model_stepped_261 : decode b_Model_stepped 261 = .ok (.aload_n 0, 1) := by decide +kernel
theorem d_Model_stepped_262 : decode b_Model_stepped 262 = .ok (.getfield 13, 3) := by decide +kernel
theorem d_Model_stepped_265 : decode b_Model_stepped 265 = .ok (.iload 7, 2) := by decide +kernel
theorem d_Model_stepped_267 : decode b_Model_stepped 267 = .ok (.iaload, 1) := by decide +kernel
theorem d_Model_stepped_268 : decode b_Model_stepped 268 = .ok (.iadd, 1) := by decide +kernel
theorem d_Model_stepped_269 : decode b_Model_stepped 269 = .ok (.iastore, 1) := by decide +kernel
theorem d_Model_stepped_270 : decode b_Model_stepped 270 = .ok (.goto 155, 3) := by decide +kernel
theorem d_Model_stepped_273 : decode b_Model_stepped 273 = .ok (.aload_n 0, 1) := by decide +kernel
theorem d_Model_stepped_274 : decode b_Model_stepped 274 = .ok (.getfield 13, 3) := by decide +kernel
theorem d_Model_stepped_277 : decode b_Model_stepped 277 = .ok (.iload 4, 2) := by decide +kernel
theorem d_Model_stepped_279 : decode b_Model_stepped 279 = .ok (.aload_n 0, 1) := by decide +kernel
theorem d_Model_stepped_280 : decode b_Model_stepped 280 = .ok (.getfield 13, 3) := by decide +kernel
theorem d_Model_stepped_283 : decode b_Model_stepped 283 = .ok (.iload 5, 2) := by decide +kernel
theorem d_Model_stepped_285 : decode b_Model_stepped 285 = .ok (.iaload, 1) := by decide +kernel
theorem d_Model_stepped_286 : decode b_Model_stepped 286 = .ok (.aload_n 0, 1) := by decide +kernel
theorem d_Model_stepped_287 : decode b_Model_stepped 287 = .ok (.getfield 13, 3) := by decide +kernel
theorem d_Model_stepped_290 : decode b_Model_stepped 290 = .ok (.iload 7, 2) := by decide +kernel
theorem d_Model_stepped_292 : decode b_Model_stepped 292 = .ok (.iaload, 1) := by decide +kernel
theorem d_Model_stepped_293 : decode b_Model_stepped 293 = .ok (.isub, 1) := by decide +kernel
theorem d_Model_stepped_294 : decode b_Model_stepped 294 = .ok (.iastore, 1) := by decide +kernel
theorem d_Model_stepped_295 : decode b_Model_stepped 295 = .ok (.goto 130, 3) := by decide +kernel
theorem d_Model_stepped_298 : decode b_Model_stepped 298 = .ok (.aload_n 0, 1) := by decide +kernel
theorem d_Model_stepped_299 : decode b_Model_stepped 299 = .ok (.getfield 13, 3) := by decide +kernel
theorem d_Model_stepped_302 : decode b_Model_stepped 302 = .ok (.iload 4, 2) := by decide +kernel
theorem d_Model_stepped_304 : decode b_Model_stepped 304 = .ok (.aload_n 0, 1) := by decide +kernel
theorem d_Model_stepped_305 : decode b_Model_stepped 305 = .ok (.getfield 13, 3) := by decide +kernel
theorem d_Model_stepped_308 : decode b_Model_stepped 308 = .ok (.iload 5, 2) := by decide +kernel
theorem d_Model_stepped_310 : decode b_Model_stepped 310 = .ok (.iaload, 1) := by decide +kernel
theorem d_Model_stepped_311 : decode b_Model_stepped 311 = .ok (.aload_n 0, 1) := by decide +kernel
theorem d_Model_stepped_312 : decode b_Model_stepped 312 = .ok (.getfield 13, 3) := by decide +kernel
theorem d_Model_stepped_315 : decode b_Model_stepped 315 = .ok (.iload 7, 2) := by decide +kernel
theorem d_Model_stepped_317 : decode b_Model_stepped 317 = .ok (.iaload, 1) := by decide +kernel
theorem d_Model_stepped_318 : decode b_Model_stepped 318 = .ok (.iand, 1) := by decide +kernel
theorem d_Model_stepped_319 : decode b_Model_stepped 319 = .ok (.iastore, 1) := by decide +kernel
theorem d_Model_stepped_320 : decode b_Model_stepped 320 = .ok (.goto 105, 3) := by decide +kernel
theorem d_Model_stepped_323 : decode b_Model_stepped 323 = .ok (.aload_n 0, 1) := by decide +kernel
theorem d_Model_stepped_324 : decode b_Model_stepped 324 = .ok (.getfield 13, 3) := by decide +kernel
theorem d_Model_stepped_327 : decode b_Model_stepped 327 = .ok (.iload 4, 2) := by decide +kernel
theorem d_Model_stepped_329 : decode b_Model_stepped 329 = .ok (.iaload, 1) := by decide +kernel
theorem d_Model_stepped_330 : decode b_Model_stepped 330 = .ok (.ifCond .ne 95, 3) := by decide +kernel
theorem d_Model_stepped_333 : decode b_Model_stepped 333 = .ok (.aload_n 0, 1) := by decide +kernel
theorem d_Model_stepped_334 : decode b_Model_stepped 334 = .ok (.getfield 22, 3) := by decide +kernel
theorem d_Model_stepped_337 : decode b_Model_stepped 337 = .ok (.iload_n 1, 1) := by decide +kernel
theorem d_Model_stepped_338 : decode b_Model_stepped 338 = .ok (.aload_n 0, 1) := by decide +kernel
theorem d_Model_stepped_339 : decode b_Model_stepped 339 = .ok (.getfield 22, 3) := by decide +kernel
theorem d_Model_stepped_342 : decode b_Model_stepped 342 = .ok (.iload_n 1, 1) := by decide +kernel
theorem d_Model_stepped_343 : decode b_Model_stepped 343 = .ok (.iaload, 1) := by decide +kernel
theorem d_Model_stepped_344 : decode b_Model_stepped 344 = .ok (.iload 6, 2) := by decide +kernel
theorem d_Model_stepped_346 : decode b_Model_stepped 346 = .ok (.iadd, 1) := by decide +kernel
theorem d_Model_stepped_347 : decode b_Model_stepped 347 = .ok (.bipush 15, 2) := by decide +kernel
theorem d_Model_stepped_349 : decode b_Model_stepped 349 = .ok (.iand, 1) := by decide +kernel
theorem d_Model_stepped_350 : decode b_Model_stepped 350 = .ok (.iastore, 1) := by decide +kernel
theorem d_Model_stepped_351 : decode b_Model_stepped 351 = .ok (.goto 74, 3) := by decide +kernel
theorem d_Model_stepped_354 : decode b_Model_stepped 354 = .ok (.aload_n 0, 1) := by decide +kernel
theorem d_Model_stepped_355 : decode b_Model_stepped 355 = .ok (.getfield 13, 3) := by decide +kernel
theorem d_Model_stepped_358 : decode b_Model_stepped 358 = .ok (.iload 4, 2) := by decide +kernel
theorem d_Model_stepped_360 : decode b_Model_stepped 360 = .ok (.iaload, 1) := by decide +kernel
theorem d_Model_stepped_361 : decode b_Model_stepped 361 = .ok (.aload_n 0, 1) := by decide +kernel
theorem d_Model_stepped_362 : decode b_Model_stepped 362 = .ok (.getfield 13, 3) := by decide +kernel
theorem d_Model_stepped_365 : decode b_Model_stepped 365 = .ok (.iload 5, 2) := by decide +kernel
theorem d_Model_stepped_367 : decode b_Model_stepped 367 = .ok (.iaload, 1) := by decide +kernel
theorem d_Model_stepped_368 : decode b_Model_stepped 368 = .ok (.if_icmp .ge 57, 3) := by decide +kernel
theorem d_Model_stepped_371 : decode b_Model_stepped 371 = .ok (.aload_n 0, 1) := by decide +kernel
theorem d_Model_stepped_372 : decode b_Model_stepped 372 = .ok (.getfield 22, 3) := by decide +kernel
theorem d_Model_stepped_375 : decode b_Model_stepped 375 = .ok (.iload_n 1, 1) := by decide +kernel
theorem d_Model_stepped_376 : decode b_Model_stepped 376 = .ok (.aload_n 0, 1) := by decide +kernel
theorem d_Model_stepped_377 : decode b_Model_stepped 377 = .ok (.getfield 22, 3) := by decide +kernel
theorem d_Model_stepped_380 : decode b_Model_stepped 380 = .ok (.iload_n 1, 1) := by decide +kernel
theorem d_Model_stepped_381 : decode b_Model_stepped 381 = .ok (.iaload, 1) := by decide +kernel
theorem d_Model_stepped_382 : decode b_Model_stepped 382 = .ok (.iload 6, 2) := by decide +kernel
theorem d_Model_stepped_384 : decode b_Model_stepped 384 = .ok (.iadd, 1) := by decide +kernel
theorem d_Model_stepped_385 : decode b_Model_stepped 385 = .ok (.bipush 15, 2) := by decide +kernel
theorem d_Model_stepped_387 : decode b_Model_stepped 387 = .ok (.iand, 1) := by decide +kernel
theorem d_Model_stepped_388 : decode b_Model_stepped 388 = .ok (.iastore, 1) := by decide +kernel
theorem d_Model_stepped_389 : decode b_Model_stepped 389 = .ok (.goto 36, 3) := by decide +kernel
theorem d_Model_stepped_392 : decode b_Model_stepped 392 = .ok (.aload_n 0, 1) := by decide +kernel
theorem d_Model_stepped_393 : decode b_Model_stepped 393 = .ok (.getfield 13, 3) := by decide +kernel
theorem d_Model_stepped_396 : decode b_Model_stepped 396 = .ok (.iload 4, 2) := by decide +kernel
theorem d_Model_stepped_398 : decode b_Model_stepped 398 = .ok (.aload_n 0, 1) := by decide +kernel
theorem d_Model_stepped_399 : decode b_Model_stepped 399 = .ok (.getfield 25, 3) := by decide +kernel
theorem d_Model_stepped_402 : decode b_Model_stepped 402 = .ok (.iload_n 1, 1) := by decide +kernel
theorem d_Model_stepped_403 : decode b_Model_stepped 403 = .ok (.iaload, 1) := by decide +kernel
theorem d_Model_stepped_404 : decode b_Model_stepped 404 = .ok (.iastore, 1) := by decide +kernel
theorem d_Model_stepped_405 : decode b_Model_stepped 405 = .ok (.goto 20, 3) := by decide +kernel
theorem d_Model_stepped_408 : decode b_Model_stepped 408 = .ok (.aload_n 0, 1) := by decide +kernel
theorem d_Model_stepped_409 : decode b_Model_stepped 409 = .ok (.getfield 13, 3) := by decide +kernel
theorem d_Model_stepped_412 : decode b_Model_stepped 412 = .ok (.iload 4, 2) := by decide +kernel
theorem d_Model_stepped_414 : decode b_Model_stepped 414 = .ok (.iload_n 1, 1) := by decide +kernel
theorem d_Model_stepped_415 : decode b_Model_stepped 415 = .ok (.iastore, 1) := by decide +kernel
theorem d_Model_stepped_416 : decode b_Model_stepped 416 = .ok (.goto 9, 3) := by decide +kernel
theorem d_Model_stepped_419 : decode b_Model_stepped 419 = .ok (.aload_n 0, 1) := by decide +kernel
theorem d_Model_stepped_420 : decode b_Model_stepped 420 = .ok (.iload_n 1, 1) := by decide +kernel
theorem d_Model_stepped_421 : decode b_Model_stepped 421 = .ok (.invokevirtual 109, 3) := by decide +kernel
theorem d_Model_stepped_424 : decode b_Model_stepped 424 = .ok (.ireturn, 1) := by decide +kernel
theorem d_Model_stepped_425 : decode b_Model_stepped 425 = .ok (.iconst 4, 1) := by decide +kernel
theorem d_Model_stepped_426 : decode b_Model_stepped 426 = .ok (.ireturn, 1) := by decide +kernel
theorem d_Model_moved_0 : decode b_Model_moved 0 = .ok (.aload_n 0, 1) := by decide +kernel
theorem d_Model_moved_1 : decode b_Model_moved 1 = .ok (.iload_n 1, 1) := by decide +kernel
theorem d_Model_moved_2 : decode b_Model_moved 2 = .ok (.iload_n 3, 1) := by decide +kernel
theorem d_Model_moved_3 : decode b_Model_moved 3 = .ok (.bipush 63, 2) := by decide +kernel
theorem d_Model_moved_5 : decode b_Model_moved 5 = .ok (.iand, 1) := by decide +kernel
theorem d_Model_moved_6 : decode b_Model_moved 6 = .ok (.iconst 2, 1) := by decide +kernel
theorem d_Model_moved_7 : decode b_Model_moved 7 = .ok (.idiv, 1) := by decide +kernel
theorem d_Model_moved_8 : decode b_Model_moved 8 = .ok (.iload 4, 2) := by decide +kernel
theorem d_Model_moved_10 : decode b_Model_moved 10 = .ok (.invokevirtual 113, 3) := by decide +kernel
theorem d_Model_moved_13 : decode b_Model_moved 13 = .ok (.istore 5, 2) := by decide +kernel
theorem d_Model_moved_15 : decode b_Model_moved 15 = .ok (.iload 5, 2) := by decide +kernel
theorem d_Model_moved_17 : decode b_Model_moved 17 = .ok (.iconst (-1), 1) := by decide +kernel
theorem d_Model_moved_18 : decode b_Model_moved 18 = .ok (.if_icmp .ne 5, 3) := by decide +kernel
theorem d_Model_moved_21 : decode b_Model_moved 21 = .ok (.iconst 2, 1) := by decide +kernel
theorem d_Model_moved_22 : decode b_Model_moved 22 = .ok (.ireturn, 1) := by decide +kernel
theorem d_Model_moved_23 : decode b_Model_moved 23 = .ok (.iload_n 3, 1) := by decide +kernel
theorem d_Model_moved_24 : decode b_Model_moved 24 = .ok (.iconst 1, 1) := by decide +kernel
theorem d_Model_moved_25 : decode b_Model_moved 25 = .ok (.iand, 1) := by decide +kernel
theorem d_Model_moved_26 : decode b_Model_moved 26 = .ok (.ifCond .ne 7, 3) := by decide +kernel
theorem d_Model_moved_29 : decode b_Model_moved 29 = .ok (.iconst 1, 1) := by decide +kernel
theorem d_Model_moved_30 : decode b_Model_moved 30 = .ok (.goto 4, 3) := by decide +kernel
theorem d_Model_moved_33 : decode b_Model_moved 33 = .ok (.iconst 0, 1) := by decide +kernel
theorem d_Model_moved_34 : decode b_Model_moved 34 = .ok (.istore 6, 2) := by decide +kernel
theorem d_Model_moved_36 : decode b_Model_moved 36 = .ok (.iload 4, 2) := by decide +kernel
theorem d_Model_moved_38 : decode b_Model_moved 38 = .ok (.ifCond .ne 34, 3) := by decide +kernel
theorem d_Model_moved_41 : decode b_Model_moved 41 = .ok (.aload_n 0, 1) := by decide +kernel
theorem d_Model_moved_42 : decode b_Model_moved 42 = .ok (.getfield 13, 3) := by decide +kernel
theorem d_Model_moved_45 : decode b_Model_moved 45 = .ok (.iload_n 2, 1) := by decide +kernel
theorem d_Model_moved_46 : decode b_Model_moved 46 = .ok (.iload 6, 2) := by decide +kernel
theorem d_Model_moved_48 : decode b_Model_moved 48 = .ok (.ifCond .eq 13, 3) := by decide +kernel
theorem d_Model_moved_51 : decode b_Model_moved 51 = .ok (.aload_n 0, 1) := by decide +kernel
theorem d_Model_moved_52 : decode b_Model_moved 52 = .ok (.getfield 47, 3) := by decide +kernel
theorem d_Model_moved_55 : decode b_Model_moved 55 = .ok (.iload 5, 2) := by decide +kernel
theorem d_Model_moved_57 : decode b_Model_moved 57 = .ok (.iaload, 1) := by decide +kernel
theorem d_Model_moved_58 : decode b_Model_moved 58 = .ok (.goto 10, 3) := by decide +kernel
theorem d_Model_moved_61 : decode b_Model_moved 61 = .ok (.aload_n 0, 1) := by decide +kernel
theorem d_Model_moved_62 : decode b_Model_moved 62 = .ok (.getfield 50, 3) := by decide +kernel
theorem d_Model_moved_65 : decode b_Model_moved 65 = .ok (.iload 5, 2) := by decide +kernel
theorem d_Model_moved_67 : decode b_Model_moved 67 = .ok (.iaload, 1) := by decide +kernel
theorem d_Model_moved_68 : decode b_Model_moved 68 = .ok (.iastore, 1) := by decide +kernel
theorem d_Model_moved_69 : decode b_Model_moved 69 = .ok (.goto 37, 3) := by decide +kernel
theorem d_Model_moved_72 : decode b_Model_moved 72 = .ok (.iload 6, 2) := by decide +kernel
theorem d_Model_moved_74 : decode b_Model_moved 74 = .ok (.ifCond .eq 19, 3) := by decide +kernel
theorem d_Model_moved_77 : decode b_Model_moved 77 = .ok (.aload_n 0, 1) := by decide +kernel
theorem d_Model_moved_78 : decode b_Model_moved 78 = .ok (.getfield 47, 3) := by decide +kernel
theorem d_Model_moved_81 : decode b_Model_moved 81 = .ok (.iload 5, 2) := by decide +kernel
theorem d_Model_moved_83 : decode b_Model_moved 83 = .ok (.aload_n 0, 1) := by decide +kernel
theorem d_Model_moved_84 : decode b_Model_moved 84 = .ok (.getfield 13, 3) := by decide +kernel
theorem d_Model_moved_87 : decode b_Model_moved 87 = .ok (.iload_n 2, 1) := by decide +kernel
theorem d_Model_moved_88 : decode b_Model_moved 88 = .ok (.iaload, 1) := by decide +kernel
theorem d_Model_moved_89 : decode b_Model_moved 89 = .ok (.iastore, 1) := by decide +kernel
theorem d_Model_moved_90 : decode b_Model_moved 90 = .ok (.goto 16, 3) := by decide +kernel
theorem d_Model_moved_93 : decode b_Model_moved 93 = .ok (.aload_n 0, 1) := by decide +kernel
theorem d_Model_moved_94 : decode b_Model_moved 94 = .ok (.getfield 50, 3) := by decide +kernel
theorem d_Model_moved_97 : decode b_Model_moved 97 = .ok (.iload 5, 2) := by decide +kernel
theorem d_Model_moved_99 : decode b_Model_moved 99 = .ok (.aload_n 0, 1) := by decide +kernel
theorem d_Model_moved_100 : decode b_Model_moved 100 = .ok (.getfield 13, 3) := by decide +kernel
theorem d_Model_moved_103 : decode b_Model_moved 103 = .ok (.iload_n 2, 1) := by decide +kernel
theorem d_Model_moved_104 : decode b_Model_moved 104 = .ok (.iaload, 1) := by decide +kernel
theorem d_Model_moved_105 : decode b_Model_moved 105 = .ok (.iastore, 1) := by decide +kernel
theorem d_Model_moved_106 : decode b_Model_moved 106 = .ok (.iconst 4, 1) := by decide +kernel
theorem d_Model_moved_107 : decode b_Model_moved 107 = .ok (.ireturn, 1) := by decide +kernel
theorem d_Model_access_0 : decode b_Model_access 0 = .ok (.aload_n 0, 1) := by decide +kernel
theorem d_Model_access_1 : decode b_Model_access 1 = .ok (.iload_n 1, 1) := by decide +kernel
theorem d_Model_access_2 : decode b_Model_access 2 = .ok (.iload_n 2, 1) := by decide +kernel
theorem d_Model_access_3 : decode b_Model_access 3 = .ok (.invokevirtual 73, 3) := by decide +kernel
theorem d_Model_access_6 : decode b_Model_access 6 = .ok (.istore 4, 2) := by decide +kernel
theorem d_Model_access_8 : decode b_Model_access 8 = .ok (.iload 4, 2) := by decide +kernel
theorem d_Model_access_10 : decode b_Model_access 10 = .ok (.iconst (-1), 1) := by decide +kernel
theorem d_Model_access_11 : decode b_Model_access 11 = .ok (.if_icmp .eq 7, 3) := by decide +kernel
theorem d_Model_access_14 : decode b_Model_access 14 = .ok (.iconst 1, 1) := by decide +kernel
theorem d_Model_access_15 : decode b_Model_access 15 = .ok (.goto 4, 3) := by decide +kernel
theorem d_Model_access_18 : decode b_Model_access 18 = .ok (.iconst 0, 1) := by decide +kernel
theorem d_Model_access_19 : decode b_Model_access 19 = .ok (.istore 5, 2) := by decide +kernel
theorem d_Model_access_21 : decode b_Model_access 21 = .ok (.iload 5, 2) := by decide +kernel
theorem d_Model_access_23 : decode b_Model_access 23 = .ok (.ifCond .ne 11, 3) := by decide +kernel
theorem d_Model_access_26 : decode b_Model_access 26 = .ok (.aload_n 0, 1) := by decide +kernel
theorem d_Model_access_27 : decode b_Model_access 27 = .ok (.iload_n 1, 1) := by decide +kernel
theorem d_Model_access_28 : decode b_Model_access 28 = .ok (.iload_n 2, 1) := by decide +kernel
theorem d_Model_access_29 : decode b_Model_access 29 = .ok (.invokevirtual 85, 3) := by decide +kernel
theorem d_Model_access_32 : decode b_Model_access 32 = .ok (.istore 4, 2) := by decide +kernel
theorem d_Model_access_34 : decode b_Model_access 34 = .ok (.iload 4, 2) := by decide +kernel
theorem d_Model_access_36 : decode b_Model_access 36 = .ok (.iconst (-1), 1) := by decide +kernel
theorem d_Model_access_37 : decode b_Model_access 37 = .ok (.if_icmp .ne 12, 3) := by decide +kernel
theorem d_Model_access_40 : decode b_Model_access 40 = .ok (.aload_n 0, 1) := by decide +kernel
theorem d_Model_access_41 : decode b_Model_access 41 = .ok (.iload_n 1, 1) := by decide +kernel
theorem d_Model_access_42 : decode b_Model_access 42 = .ok (.iconst 2, 1) := by decide +kernel
theorem d_Model_access_43 : decode b_Model_access 43 = .ok (.iconst 2, 1) := by decide +kernel
theorem d_Model_access_44 : decode b_Model_access 44 = .ok (.invokevirtual 77, 3) := by decide +kernel
theorem d_Model_access_47 : decode b_Model_access 47 = .ok (.iconst (-1), 1) := by decide +kernel
theorem d_Model_access_48 : decode b_Model_access 48 = .ok (.ireturn, 1) := by decide +kernel
theorem d_Model_access_49 : decode b_Model_access 49 = .ok (.iload 5, 2) := by decide +kernel
theorem d_Model_access_51 : decode b_Model_access 51 = .ok (.ifCond .eq 18, 3) := by decide +kernel
theorem d_Model_access_54 : decode b_Model_access 54 = .ok (.iload_n 3, 1) := by decide +kernel
theorem d_Model_access_55 : decode b_Model_access 55 = .ok (.ifCond .eq 56, 3) := by decide +kernel
theorem d_Model_access_58 : decode b_Model_access 58 = .ok (.aload_n 0, 1) := by decide +kernel
theorem d_Model_access_59 : decode b_Model_access 59 = .ok (.getfield 38, 3) := by decide +kernel
theorem d_Model_access_62 : decode b_Model_access 62 = .ok (.iload 4, 2) := by decide +kernel
theorem d_Model_access_64 : decode b_Model_access 64 = .ok (.iaload, 1) := by decide +kernel
theorem d_Model_access_65 : decode b_Model_access 65 = .ok (.iconst 2, 1) := by decide +kernel
theorem d_Model_access_66 : decode b_Model_access 66 = .ok (.if_icmp .eq 45, 3) := by decide +kernel
theorem d_Model_access_69 : decode b_Model_access 69 = .ok (.aload_n 0, 1) := by decide +kernel
theorem d_Model_access_70 : decode b_Model_access 70 = .ok (.dup, 1) := by decide +kernel
theorem d_Model_access_71 : decode b_Model_access 71 = .ok (.getfield 88, 3) := by decide +kernel
theorem d_Model_access_74 : decode b_Model_access 74 = .ok (.iconst 1, 1) := by decide +kernel
theorem d_Model_access_75 : decode b_Model_access 75 = .ok (.iadd, 1) := by decide +kernel
theorem d_Model_access_76 : decode b_Model_access 76 = .ok (.putfield 88, 3) := by decide +kernel
theorem d_Model_access_79 : decode b_Model_access 79 = .ok (.iconst 0, 1) := by decide +kernel
theorem d_Model_access_80 : decode b_Model_access 80 = .ok (.istore 6, 2) := by decide +kernel
theorem d_Model_access_82 : decode b_Model_access 82 = .ok (.iload 6, 2) := by decide +kernel
theorem d_Model_access_84 : decode b_Model_access 84 = .ok (.aload_n 0, 1) := by decide +kernel
theorem d_Model_access_85 : decode b_Model_access 85 = .ok (.getfield 56, 3) := by decide +kernel
theorem d_Model_access_88 : decode b_Model_access 88 = .ok (.if_icmp .ge 23, 3) := by decide +kernel
theorem d_Model_access_91 : decode b_Model_access 91 = .ok (.iload 6, 2) := by decide +kernel
theorem d_Model_access_93 : decode b_Model_access 93 = .ok (.iload_n 1, 1) := by decide +kernel
theorem d_Model_access_94 : decode b_Model_access 94 = .ok (.if_icmp .eq 11, 3) := by decide +kernel
theorem d_Model_access_97 : decode b_Model_access 97 = .ok (.aload_n 0, 1) := by decide +kernel
theorem d_Model_access_98 : decode b_Model_access 98 = .ok (.iload 6, 2) := by decide +kernel
theorem d_Model_access_100 : decode b_Model_access 100 = .ok (.iload_n 2, 1) := by decide +kernel
theorem d_Model_access_101 : decode b_Model_access 101 = .ok (.iload_n 3, 1) := by decide +kernel
theorem d_Model_access_102 : decode b_Model_access 102 = .ok (.invokevirtual 91, 3) := by decide +kernel
theorem d_Model_access_105 : decode b_Model_access 105 = .ok (.iinc 6 1, 3) := by decide +kernel
theorem d_Model_access_108 : decode b_Model_access 108 = .ok (.goto (-26), 3) := by decide +kernel
theorem d_Model_access_111 : decode b_Model_access 111 = .ok (.iload 5, 2) := by decide +kernel
theorem d_Model_access_113 : decode b_Model_access 113 = .ok (.ifCond .ne 76, 3) := by decide +kernel
theorem d_Model_access_116 : decode b_Model_access 116 = .ok (.aload_n 0, 1) := by decide +kernel
theorem d_Model_access_117 : decode b_Model_access 117 = .ok (.getfield 38, 3) := by decide +kernel
theorem d_Model_access_120 : decode b_Model_access 120 = .ok (.iload 4, 2) := by decide +kernel
theorem d_Model_access_122 : decode b_Model_access 122 = .ok (.iaload, 1) := by decide +kernel
theorem d_Model_access_123 : decode b_Model_access 123 = .ok (.iconst 2, 1) := by decide +kernel
theorem d_Model_access_124 : decode b_Model_access 124 = .ok (.if_icmp .ne 9, 3) := by decide +kernel
theorem d_Model_access_127 : decode b_Model_access 127 = .ok (.aload_n 0, 1) := by decide +kernel
theorem d_Model_access_128 : decode b_Model_access 128 = .ok (.iload 4, 2) := by decide +kernel
theorem d_Model_access_130 : decode b_Model_access 130 = .ok (.invokevirtual 81, 3) := by decide +kernel
theorem d_Model_access_133 : decode b_Model_access 133 = .ok (.aload_n 0, 1) := by decide +kernel
theorem d_Model_access_134 : decode b_Model_access 134 = .ok (.getfield 38, 3) := by decide +kernel
theorem d_Model_access_137 : decode b_Model_access 137 = .ok (.iload 4, 2) := by decide +kernel
theorem d_Model_access_139 : decode b_Model_access 139 = .ok (.iconst 1, 1) := by decide +kernel
theorem d_Model_access_140 : decode b_Model_access 140 = .ok (.iastore, 1) := by decide +kernel
theorem d_Model_access_141 : decode b_Model_access 141 = .ok (.aload_n 0, 1) := by decide +kernel
theorem d_Model_access_142 : decode b_Model_access 142 = .ok (.getfield 41, 3) := by decide +kernel
theorem d_Model_access_145 : decode b_Model_access 145 = .ok (.iload 4, 2) := by decide +kernel
theorem d_Model_access_147 : decode b_Model_access 147 = .ok (.iload_n 2, 1) := by decide +kernel
theorem d_Model_access_148 : decode b_Model_access 148 = .ok (.iastore, 1) := by decide +kernel
theorem d_Model_access_149 : decode b_Model_access 149 = .ok (.aload_n 0, 1) := by decide +kernel
theorem d_Model_access_150 : decode b_Model_access 150 = .ok (.getfield 44, 3) := by decide +kernel
theorem d_Model_access_153 : decode b_Model_access 153 = .ok (.iload 4, 2) := by decide +kernel
theorem d_Model_access_155 : decode b_Model_access 155 = .ok (.iconst 0, 1) := by decide +kernel
theorem d_Model_access_156 : decode b_Model_access 156 = .ok (.iastore, 1) := by decide +kernel
theorem d_Model_access_157 : decode b_Model_access 157 = .ok (.aload_n 0, 1) := by decide +kernel
theorem d_Model_access_158 : decode b_Model_access 158 = .ok (.getfield 47, 3) := by decide +kernel
theorem d_Model_access_161 : decode b_Model_access 161 = .ok (.iload 4, 2) := by decide +kernel
theorem d_Model_access_163 : decode b_Model_access 163 = .ok (.aload_n 0, 1) := by decide +kernel
theorem d_Model_access_164 : decode b_Model_access 164 = .ok (.getfield 7, 3) := by decide +kernel
theorem d_Model_access_167 : decode b_Model_access 167 = .ok (.iconst 2, 1) := by decide +kernel
theorem d_Model_access_168 : decode b_Model_access 168 = .ok (.iload_n 2, 1) := by decide +kernel
theorem d_Model_access_169 : decode b_Model_access 169 = .ok (.imul, 1) := by decide +kernel
theorem d_Model_access_170 : decode b_Model_access 170 = .ok (.iaload, 1) := by decide +kernel
theorem d_Model_access_171 : decode b_Model_access 171 = .ok (.iastore, 1) := by decide +kernel
theorem d_Model_access_172 : decode b_Model_access 172 = .ok (.aload_n 0, 1) := by decide +kernel
theorem d_Model_access_173 : decode b_Model_access 173 = .ok (.getfield 50, 3) := by decide +kernel
theorem d_Model_access_176 : decode b_Model_access 176 = .ok (.iload 4, 2) := by decide +kernel
theorem d_Model_access_178 : decode b_Model_access 178 = .ok (.aload_n 0, 1) := by decide +kernel
theorem d_Model_access_179 : decode b_Model_access 179 = .ok (.getfield 7, 3) := by decide +kernel
theorem d_Model_access_182 : decode b_Model_access 182 = .ok (.iconst 2, 1) := by decide +kernel
theorem d_Model_access_183 : decode b_Model_access 183 = .ok (.iload_n 2, 1) := by decide +kernel
theorem d_Model_access_184 : decode b_Model_access 184 = .ok (.imul, 1) := by decide +kernel
theorem d_Model_access_185 : decode b_Model_access 185 = .ok (.iconst 1, 1) := by decide +kernel
theorem d_Model_access_186 : decode b_Model_access 186 = .ok (.iadd, 1) := by decide +kernel
theorem d_Model_access_187 : decode b_Model_access 187 = .ok (.iaload, 1) := by decide +kernel
theorem d_Model_access_188 : decode b_Model_access 188 = .ok (.iastore, 1) := by decide +kernel
theorem d_Model_access_189 : decode b_Model_access 189 = .ok (.aload_n 0, 1) := by decide +kernel
theorem d_Model_access_190 : decode b_Model_access 190 = .ok (.getfield 25, 3) := by decide +kernel
theorem d_Model_access_193 : decode b_Model_access 193 = .ok (.iload_n 1, 1) := by decide +kernel
theorem d_Model_access_194 : decode b_Model_access 194 = .ok (.iaload, 1) := by decide +kernel
theorem d_Model_access_195 : decode b_Model_access 195 = .ok (.ifCond .le 7, 3) := by decide +kernel
theorem d_Model_access_198 : decode b_Model_access 198 = .ok (.iconst 1, 1) := by decide +kernel
theorem d_Model_access_199 : decode b_Model_access 199 = .ok (.goto 4, 3) := by decide +kernel
theorem d_Model_access_202 : decode b_Model_access 202 = .ok (.iconst 0, 1) := by decide +kernel
theorem d_Model_access_203 : decode b_Model_access 203 = .ok (.istore 6, 2) := by decide +kernel
theorem d_Model_access_205 : decode b_Model_access 205 = .ok (.iload_n 3, 1) := by decide +kernel
theorem d_Model_access_206 : decode b_Model_access 206 = .ok (.ifCond .eq 45, 3) := by decide +kernel
theorem d_Model_access_209 : decode b_Model_access 209 = .ok (.iload 6, 2) := by decide +kernel
theorem d_Model_access_211 : decode b_Model_access 211 = .ok (.ifCond .eq 32, 3) := by decide +kernel
theorem d_Model_access_214 : decode b_Model_access 214 = .ok (.aload_n 0, 1) := by decide +kernel
theorem d_Model_access_215 : decode b_Model_access 215 = .ok (.getfield 38, 3) := by decide +kernel
theorem d_Model_access_218 : decode b_Model_access 218 = .ok (.iload 4, 2) := by decide +kernel
theorem d_Model_access_220 : decode b_Model_access 220 = .ok (.iaload, 1) := by decide +kernel
theorem d_Model_access_221 : decode b_Model_access 221 = .ok (.iconst 2, 1) := by decide +kernel
theorem d_Model_access_222 : decode b_Model_access 222 = .ok (.if_icmp .ne 21, 3) := by decide +kernel
theorem d_Model_access_225 : decode b_Model_access 225 = .ok (.aload_n 0, 1) := by decide +kernel
theorem d_Model_access_226 : decode b_Model_access 226 = .ok (.getfield 44, 3) := by decide +kernel
theorem d_Model_access_229 : decode b_Model_access 229 = .ok (.iload 4, 2) := by decide +kernel
theorem d_Model_access_231 : decode b_Model_access 231 = .ok (.iaload, 1) := by decide +kernel
theorem d_Model_access_232 : decode b_Model_access 232 = .ok (.iconst 2, 1) := by decide +kernel
theorem d_Model_access_233 : decode b_Model_access 233 = .ok (.iand, 1) := by decide +kernel
theorem d_Model_access_234 : decode b_Model_access 234 = .ok (.ifCond .ne 9, 3) := by decide +kernel
theorem d_Model_access_237 : decode b_Model_access 237 = .ok (.aload_n 0, 1) := by decide +kernel
theorem d_Model_access_238 : decode b_Model_access 238 = .ok (.iload 4, 2) := by decide +kernel
theorem d_Model_access_240 : decode b_Model_access 240 = .ok (.invokevirtual 81, 3) := by decide +kernel
theorem d_Model_access_243 : decode b_Model_access 243 = .ok (.aload_n 0, 1) := by decide +kernel
theorem d_Model_access_244 : decode b_Model_access 244 = .ok (.getfield 38, 3) := by decide +kernel
theorem d_Model_access_247 : decode b_Model_access 247 = .ok (.iload 4, 2) := by decide +kernel
theorem d_Model_access_249 : decode b_Model_access 249 = .ok (.iconst 2, 1) := by decide +kernel
theorem d_Model_access_250 : decode b_Model_access 250 = .ok (.iastore, 1) := by decide +kernel
theorem d_Model_access_251 : decode b_Model_access 251 = .ok (.iload 6, 2) := by decide +kernel
theorem d_Model_access_253 : decode b_Model_access 253 = .ok (.ifCond .eq 22, 3) := by decide +kernel
theorem d_Model_access_256 : decode b_Model_access 256 = .ok (.aload_n 0, 1) := by decide +kernel
theorem d_Model_access_257 : decode b_Model_access 257 = .ok (.getfield 44, 3) := by decide +kernel
theorem d_Model_access_260 : decode b_Model_access 260 = .ok (.iload 4, 2) := by decide +kernel
theorem d_Model_access_262 : decode b_Model_access 262 = .ok (.dup2, 1) := by decide +kernel
theorem d_Model_access_263 : decode b_Model_access 263 = .ok (.iaload, 1) := by decide +kernel
theorem d_Model_access_264 : decode b_Model_access 264 = .ok (.iload_n 3, 1) := by decide +kernel
theorem d_Model_access_265 : decode b_Model_access 265 = .ok (.ifCond .eq 7, 3) := by decide +kernel
theorem d_Model_access_268 : decode b_Model_access 268 = .ok (.iconst 2, 1) := by decide +kernel
theorem d_Model_access_269 : decode b_Model_access 269 = .ok (.goto 4, 3) := by decide +kernel
theorem d_Model_access_272 : decode b_Model_access 272 = .ok (.iconst 1, 1) := by decide +kernel
theorem d_Model_access_273 : decode b_Model_access 273 = .ok (.ior, 1) := by decide +kernel
theorem d_Model_access_274 : decode b_Model_access 274 = .ok (.iastore, 1) := by decide +kernel
theorem d_Model_access_275 : decode b_Model_access 275 = .ok (.aload_n 0, 1) := by decide +kernel
theorem d_Model_access_276 : decode b_Model_access 276 = .ok (.dup, 1) := by decide +kernel
theorem d_Model_access_277 : decode b_Model_access 277 = .ok (.getfield 95, 3) := by decide +kernel
theorem d_Model_access_280 : decode b_Model_access 280 = .ok (.iconst 1, 1) := by decide +kernel
theorem d_Model_access_281 : decode b_Model_access 281 = .ok (.iadd, 1) := by decide +kernel
theorem d_Model_access_282 : decode b_Model_access 282 = .ok (.putfield 95, 3) := by decide +kernel
theorem d_Model_access_285 : decode b_Model_access 285 = .ok (.aload_n 0, 1) := by decide +kernel
theorem d_Model_access_286 : decode b_Model_access 286 = .ok (.getfield 53, 3) := by decide +kernel
theorem d_Model_access_289 : decode b_Model_access 289 = .ok (.iload 4, 2) := by decide +kernel
theorem d_Model_access_291 : decode b_Model_access 291 = .ok (.aload_n 0, 1) := by decide +kernel
theorem d_Model_access_292 : decode b_Model_access 292 = .ok (.getfield 95, 3) := by decide +kernel
theorem d_Model_access_295 : decode b_Model_access 295 = .ok (.iastore, 1) := by decide +kernel
theorem d_Model_access_296 : decode b_Model_access 296 = .ok (.iload 4, 2) := by decide +kernel
theorem d_Model_access_298 : decode b_Model_access 298 = .ok (.ireturn, 1) := by decide +kernel
theorem d_Model_room_0 : decode b_Model_room 0 = .ok (.iconst (-1), 1) := by decide +kernel
theorem d_Model_room_1 : decode b_Model_room 1 = .ok (.istore_n 3, 1) := by decide +kernel
theorem d_Model_room_2 : decode b_Model_room 2 = .ok (.aload_n 0, 1) := by decide +kernel
theorem d_Model_room_3 : decode b_Model_room 3 = .ok (.getfield 63, 3) := by decide +kernel
theorem d_Model_room_6 : decode b_Model_room 6 = .ok (.iconst 1, 1) := by decide +kernel
theorem d_Model_room_7 : decode b_Model_room 7 = .ok (.isub, 1) := by decide +kernel
theorem d_Model_room_8 : decode b_Model_room 8 = .ok (.istore 4, 2) := by decide +kernel
theorem d_Model_room_10 : decode b_Model_room 10 = .ok (.iload 4, 2) := by decide +kernel
theorem d_Model_room_12 : decode b_Model_room 12 = .ok (.ifCond .lt 32, 3) := by decide +kernel
theorem d_Model_room_15 : decode b_Model_room 15 = .ok (.aload_n 0, 1) := by decide +kernel
theorem d_Model_room_16 : decode b_Model_room 16 = .ok (.iload_n 1, 1) := by decide +kernel
theorem d_Model_room_17 : decode b_Model_room 17 = .ok (.iload_n 2, 1) := by decide +kernel
theorem d_Model_room_18 : decode b_Model_room 18 = .ok (.iload 4, 2) := by decide +kernel
theorem d_Model_room_20 : decode b_Model_room 20 = .ok (.invokevirtual 69, 3) := by decide +kernel
theorem d_Model_room_23 : decode b_Model_room 23 = .ok (.istore 5, 2) := by decide +kernel
theorem d_Model_room_25 : decode b_Model_room 25 = .ok (.aload_n 0, 1) := by decide +kernel
theorem d_Model_room_26 : decode b_Model_room 26 = .ok (.getfield 38, 3) := by decide +kernel
theorem d_Model_room_29 : decode b_Model_room 29 = .ok (.iload 5, 2) := by decide +kernel
theorem d_Model_room_31 : decode b_Model_room 31 = .ok (.iaload, 1) := by decide +kernel
theorem d_Model_room_32 : decode b_Model_room 32 = .ok (.ifCond .ne 6, 3) := by decide +kernel
theorem d_Model_room_35 : decode b_Model_room 35 = .ok (.iload 5, 2) := by decide +kernel
theorem d_Model_room_37 : decode b_Model_room 37 = .ok (.istore_n 3, 1) := by decide +kernel
theorem d_Model_room_38 : decode b_Model_room 38 = .ok (.iinc 4 (-1), 3) := by decide +kernel
theorem d_Model_room_41 : decode b_Model_room 41 = .ok (.goto (-31), 3) := by decide +kernel
theorem d_Model_room_44 : decode b_Model_room 44 = .ok (.iload_n 3, 1) := by decide +kernel
theorem d_Model_room_45 : decode b_Model_room 45 = .ok (.iconst (-1), 1) := by decide +kernel
theorem d_Model_room_46 : decode b_Model_room 46 = .ok (.if_icmp .eq 5, 3) := by decide +kernel
theorem d_Model_room_49 : decode b_Model_room 49 = .ok (.iload_n 3, 1) := by decide +kernel
theorem d_Model_room_50 : decode b_Model_room 50 = .ok (.ireturn, 1) := by decide +kernel
theorem d_Model_room_51 : decode b_Model_room 51 = .ok (.iconst 0, 1) := by decide +kernel
theorem d_Model_room_52 : decode b_Model_room 52 = .ok (.istore 4, 2) := by decide +kernel
theorem d_Model_room_54 : decode b_Model_room 54 = .ok (.iload 4, 2) := by decide +kernel
theorem d_Model_room_56 : decode b_Model_room 56 = .ok (.aload_n 0, 1) := by decide +kernel
theorem d_Model_room_57 : decode b_Model_room 57 = .ok (.getfield 63, 3) := by decide +kernel
theorem d_Model_room_60 : decode b_Model_room 60 = .ok (.if_icmp .ge 53, 3) := by decide +kernel
theorem d_Model_room_63 : decode b_Model_room 63 = .ok (.aload_n 0, 1) := by decide +kernel
theorem d_Model_room_64 : decode b_Model_room 64 = .ok (.iload_n 1, 1) := by decide +kernel
theorem d_Model_room_65 : decode b_Model_room 65 = .ok (.iload_n 2, 1) := by decide +kernel
theorem d_Model_room_66 : decode b_Model_room 66 = .ok (.iload 4, 2) := by decide +kernel
theorem d_Model_room_68 : decode b_Model_room 68 = .ok (.invokevirtual 69, 3) := by decide +kernel
theorem d_Model_room_71 : decode b_Model_room 71 = .ok (.istore 5, 2) := by decide +kernel
theorem d_Model_room_73 : decode b_Model_room 73 = .ok (.aload_n 0, 1) := by decide +kernel
theorem d_Model_room_74 : decode b_Model_room 74 = .ok (.getfield 44, 3) := by decide +kernel
theorem d_Model_room_77 : decode b_Model_room 77 = .ok (.iload 5, 2) := by decide +kernel
theorem d_Model_room_79 : decode b_Model_room 79 = .ok (.iaload, 1) := by decide +kernel
theorem d_Model_room_80 : decode b_Model_room 80 = .ok (.ifCond .ne 27, 3) := by decide +kernel
theorem d_Model_room_83 : decode b_Model_room 83 = .ok (.iload_n 3, 1) := by decide +kernel
theorem d_Model_room_84 : decode b_Model_room 84 = .ok (.iconst (-1), 1) := by decide +kernel
theorem d_Model_room_85 : decode b_Model_room 85 = .ok (.if_icmp .eq 19, 3) := by decide +kernel
theorem d_Model_room_88 : decode b_Model_room 88 = .ok (.aload_n 0, 1) := by decide +kernel
theorem d_Model_room_89 : decode b_Model_room 89 = .ok (.getfield 53, 3) := by decide +kernel
theorem d_Model_room_92 : decode b_Model_room 92 = .ok (.iload 5, 2) := by decide +kernel
theorem d_Model_room_94 : decode b_Model_room 94 = .ok (.iaload, 1) := by decide +kernel
theorem d_Model_room_95 : decode b_Model_room 95 = .ok (.aload_n 0, 1) := by decide +kernel
theorem d_Model_room_96 : decode b_Model_room 96 = .ok (.getfield 53, 3) := by decide +kernel
theorem d_Model_room_99 : decode b_Model_room 99 = .ok (.iload_n 3, 1) := by decide +kernel
theorem d_Model_room_100 : decode b_Model_room 100 = .ok (.iaload, 1) := by decide +kernel
theorem d_Model_room_101 : decode b_Model_room 101 = .ok (.if_icmp .ge 6, 3) := by decide +kernel
theorem d_Model_room_104 : decode b_Model_room 104 = .ok (.iload 5, 2) := by decide +kernel
theorem d_Model_room_106 : decode b_Model_room 106 = .ok (.istore_n 3, 1) := by decide +kernel
theorem d_Model_room_107 : decode b_Model_room 107 = .ok (.iinc 4 1, 3) := by decide +kernel
theorem d_Model_room_110 : decode b_Model_room 110 = .ok (.goto (-56), 3) := by decide +kernel
theorem d_Model_room_113 : decode b_Model_room 113 = .ok (.iload_n 3, 1) := by decide +kernel
theorem d_Model_room_114 : decode b_Model_room 114 = .ok (.ireturn, 1) := by decide +kernel
theorem d_Model_ruled_0 : decode b_Model_ruled 0 = .ok (.iload_n 2, 1) := by decide +kernel
theorem d_Model_ruled_1 : decode b_Model_ruled 1 = .ok (.bipush 9, 2) := by decide +kernel
theorem d_Model_ruled_3 : decode b_Model_ruled 3 = .ok (.if_icmp .ne 22, 3) := by decide +kernel
theorem d_Model_ruled_6 : decode b_Model_ruled 6 = .ok (.aload_n 0, 1) := by decide +kernel
theorem d_Model_ruled_7 : decode b_Model_ruled 7 = .ok (.getfield 25, 3) := by decide +kernel
theorem d_Model_ruled_10 : decode b_Model_ruled 10 = .ok (.iload_n 1, 1) := by decide +kernel
theorem d_Model_ruled_11 : decode b_Model_ruled 11 = .ok (.iaload, 1) := by decide +kernel
theorem d_Model_ruled_12 : decode b_Model_ruled 12 = .ok (.iconst 3, 1) := by decide +kernel
theorem d_Model_ruled_13 : decode b_Model_ruled 13 = .ok (.if_icmp .ne 12, 3) := by decide +kernel
theorem d_Model_ruled_16 : decode b_Model_ruled 16 = .ok (.aload_n 0, 1) := by decide +kernel
theorem d_Model_ruled_17 : decode b_Model_ruled 17 = .ok (.iload_n 1, 1) := by decide +kernel
theorem d_Model_ruled_18 : decode b_Model_ruled 18 = .ok (.iconst 3, 1) := by decide +kernel
theorem d_Model_ruled_19 : decode b_Model_ruled 19 = .ok (.iconst 3, 1) := by decide +kernel
theorem d_Model_ruled_20 : decode b_Model_ruled 20 = .ok (.invokevirtual 77, 3) := by decide +kernel
theorem d_Model_ruled_23 : decode b_Model_ruled 23 = .ok (.iconst 2, 1) := by decide +kernel
theorem d_Model_ruled_24 : decode b_Model_ruled 24 = .ok (.ireturn, 1) := by decide +kernel
theorem d_Model_ruled_25 : decode b_Model_ruled 25 = .ok (.iload_n 2, 1) := by decide +kernel
theorem d_Model_ruled_26 : decode b_Model_ruled 26 = .ok (.bipush 9, 2) := by decide +kernel
theorem d_Model_ruled_28 : decode b_Model_ruled 28 = .ok (.if_icmp .ne 88, 3) := by decide +kernel
theorem d_Model_ruled_31 : decode b_Model_ruled 31 = .ok (.bipush 8, 2) := by decide +kernel
theorem d_Model_ruled_33 : decode b_Model_ruled 33 = .ok (.iload_n 1, 1) := by decide +kernel
theorem d_Model_ruled_34 : decode b_Model_ruled 34 = .ok (.imul, 1) := by decide +kernel
theorem d_Model_ruled_35 : decode b_Model_ruled 35 = .ok (.istore 4, 2) := by decide +kernel
theorem d_Model_ruled_37 : decode b_Model_ruled 37 = .ok (.iload 4, 2) := by decide +kernel
theorem d_Model_ruled_39 : decode b_Model_ruled 39 = .ok (.bipush 8, 2) := by decide +kernel
theorem d_Model_ruled_41 : decode b_Model_ruled 41 = .ok (.iload_n 1, 1) := by decide +kernel
theorem d_Model_ruled_42 : decode b_Model_ruled 42 = .ok (.imul, 1) := by decide +kernel
theorem d_Model_ruled_43 : decode b_Model_ruled 43 = .ok (.bipush 8, 2) := by decide +kernel
theorem d_Model_ruled_45 : decode b_Model_ruled 45 = .ok (.iadd, 1) := by decide +kernel
theorem d_Model_ruled_46 : decode b_Model_ruled 46 = .ok (.if_icmp .ge 32, 3) := by decide +kernel
theorem d_Model_ruled_49 : decode b_Model_ruled 49 = .ok (.aload_n 0, 1) := by decide +kernel
theorem d_Model_ruled_50 : decode b_Model_ruled 50 = .ok (.getfield 25, 3) := by decide +kernel
theorem d_Model_ruled_53 : decode b_Model_ruled 53 = .ok (.iload_n 1, 1) := by decide +kernel
theorem d_Model_ruled_54 : decode b_Model_ruled 54 = .ok (.iaload, 1) := by decide +kernel
theorem d_Model_ruled_55 : decode b_Model_ruled 55 = .ok (.ifCond .ne 23, 3) := by decide +kernel
theorem d_Model_ruled_58 : decode b_Model_ruled 58 = .ok (.aload_n 0, 1) := by decide +kernel
theorem d_Model_ruled_59 : decode b_Model_ruled 59 = .ok (.getfield 16, 3) := by decide +kernel
theorem d_Model_ruled_62 : decode b_Model_ruled 62 = .ok (.iload 4, 2) := by decide +kernel
theorem d_Model_ruled_64 : decode b_Model_ruled 64 = .ok (.aload_n 0, 1) := by decide +kernel
theorem d_Model_ruled_65 : decode b_Model_ruled 65 = .ok (.getfield 13, 3) := by decide +kernel
theorem d_Model_ruled_68 : decode b_Model_ruled 68 = .ok (.iload 4, 2) := by decide +kernel
theorem d_Model_ruled_70 : decode b_Model_ruled 70 = .ok (.iaload, 1) := by decide +kernel
theorem d_Model_ruled_71 : decode b_Model_ruled 71 = .ok (.iastore, 1) := by decide +kernel
theorem d_Model_ruled_72 : decode b_Model_ruled 72 = .ok (.iinc 4 1, 3) := by decide +kernel
theorem d_Model_ruled_75 : decode b_Model_ruled 75 = .ok (.goto (-38), 3) := by decide +kernel
theorem d_Model_ruled_78 : decode b_Model_ruled 78 = .ok (.aload_n 0, 1) := by decide +kernel
theorem d_Model_ruled_79 : decode b_Model_ruled 79 = .ok (.getfield 25, 3) := by decide +kernel
theorem d_Model_ruled_82 : decode b_Model_ruled 82 = .ok (.iload_n 1, 1) := by decide +kernel
theorem d_Model_ruled_83 : decode b_Model_ruled 83 = .ok (.iaload, 1) := by decide +kernel
theorem d_Model_ruled_84 : decode b_Model_ruled 84 = .ok (.ifCond .ne 20, 3) := by decide +kernel
theorem d_Model_ruled_87 : decode b_Model_ruled 87 = .ok (.aload_n 0, 1) := by decide +kernel
theorem d_Model_ruled_88 : decode b_Model_ruled 88 = .ok (.getfield 28, 3) := by decide +kernel
theorem d_Model_ruled_91 : decode b_Model_ruled 91 = .ok (.iload_n 1, 1) := by decide +kernel
theorem d_Model_ruled_92 : decode b_Model_ruled 92 = .ok (.aload_n 0, 1) := by decide +kernel
theorem d_Model_ruled_93 : decode b_Model_ruled 93 = .ok (.getfield 22, 3) := by decide +kernel
theorem d_Model_ruled_96 : decode b_Model_ruled 96 = .ok (.iload_n 1, 1) := by decide +kernel
theorem d_Model_ruled_97 : decode b_Model_ruled 97 = .ok (.iaload, 1) := by decide +kernel
theorem d_Model_ruled_98 : decode b_Model_ruled 98 = .ok (.iload_n 3, 1) := by decide +kernel
theorem d_Model_ruled_99 : decode b_Model_ruled 99 = .ok (.iadd, 1) := by decide +kernel
theorem d_Model_ruled_100 : decode b_Model_ruled 100 = .ok (.bipush 15, 2) := by decide +kernel
theorem d_Model_ruled_102 : decode b_Model_ruled 102 = .ok (.iand, 1) := by decide +kernel
theorem d_Model_ruled_103 : decode b_Model_ruled 103 = .ok (.iastore, 1) := by decide +kernel
theorem d_Model_ruled_104 : decode b_Model_ruled 104 = .ok (.aload_n 0, 1) := by decide +kernel
theorem d_Model_ruled_105 : decode b_Model_ruled 105 = .ok (.getfield 25, 3) := by decide +kernel
theorem d_Model_ruled_108 : decode b_Model_ruled 108 = .ok (.iload_n 1, 1) := by decide +kernel
theorem d_Model_ruled_109 : decode b_Model_ruled 109 = .ok (.dup2, 1) := by decide +kernel
theorem d_Model_ruled_110 : decode b_Model_ruled 110 = .ok (.iaload, 1) := by decide +kernel
theorem d_Model_ruled_111 : decode b_Model_ruled 111 = .ok (.iconst 1, 1) := by decide +kernel
theorem d_Model_ruled_112 : decode b_Model_ruled 112 = .ok (.iadd, 1) := by decide +kernel
theorem d_Model_ruled_113 : decode b_Model_ruled 113 = .ok (.iastore, 1) := by decide +kernel
theorem d_Model_ruled_114 : decode b_Model_ruled 114 = .ok (.iconst 4, 1) := by decide +kernel
theorem d_Model_ruled_115 : decode b_Model_ruled 115 = .ok (.ireturn, 1) := by decide +kernel
theorem d_Model_ruled_116 : decode b_Model_ruled 116 = .ok (.iload_n 2, 1) := by decide +kernel
theorem d_Model_ruled_117 : decode b_Model_ruled 117 = .ok (.bipush 10, 2) := by decide +kernel
theorem d_Model_ruled_119 : decode b_Model_ruled 119 = .ok (.if_icmp .ne 18, 3) := by decide +kernel
theorem d_Model_ruled_122 : decode b_Model_ruled 122 = .ok (.aload_n 0, 1) := by decide +kernel
theorem d_Model_ruled_123 : decode b_Model_ruled 123 = .ok (.getfield 25, 3) := by decide +kernel
theorem d_Model_ruled_126 : decode b_Model_ruled 126 = .ok (.iload_n 1, 1) := by decide +kernel
theorem d_Model_ruled_127 : decode b_Model_ruled 127 = .ok (.iaload, 1) := by decide +kernel
theorem d_Model_ruled_128 : decode b_Model_ruled 128 = .ok (.ifCond .ne 9, 3) := by decide +kernel
theorem d_Model_ruled_131 : decode b_Model_ruled 131 = .ok (.aload_n 0, 1) := by decide +kernel
theorem d_Model_ruled_132 : decode b_Model_ruled 132 = .ok (.iload_n 1, 1) := by decide +kernel
theorem d_Model_ruled_133 : decode b_Model_ruled 133 = .ok (.invokevirtual 109, 3) := by decide +kernel
theorem d_Model_ruled_136 : decode b_Model_ruled 136 = .ok (.ireturn, 1) := by decide +kernel
theorem d_Model_ruled_137 : decode b_Model_ruled 137 = .ok (.iload_n 2, 1) := by decide +kernel
theorem d_Model_ruled_138 : decode b_Model_ruled 138 = .ok (.bipush 10, 2) := by decide +kernel
theorem d_Model_ruled_140 : decode b_Model_ruled 140 = .ok (.if_icmp .ne 71, 3) := by decide +kernel
theorem d_Model_ruled_143 : decode b_Model_ruled 143 = .ok (.aload_n 0, 1) := by decide +kernel
theorem d_Model_ruled_144 : decode b_Model_ruled 144 = .ok (.getfield 25, 3) := by decide +kernel
theorem d_Model_ruled_147 : decode b_Model_ruled 147 = .ok (.iload_n 1, 1) := by decide +kernel
theorem d_Model_ruled_148 : decode b_Model_ruled 148 = .ok (.dup2, 1) := by decide +kernel
theorem d_Model_ruled_149 : decode b_Model_ruled 149 = .ok (.iaload, 1) := by decide +kernel
theorem d_Model_ruled_150 : decode b_Model_ruled 150 = .ok (.iconst 1, 1) := by decide +kernel
theorem d_Model_ruled_151 : decode b_Model_ruled 151 = .ok (.isub, 1) := by decide +kernel
theorem d_Model_ruled_152 : decode b_Model_ruled 152 = .ok (.iastore, 1) := by decide +kernel
theorem d_Model_ruled_153 : decode b_Model_ruled 153 = .ok (.aload_n 0, 1) := by decide +kernel
theorem d_Model_ruled_154 : decode b_Model_ruled 154 = .ok (.getfield 25, 3) := by decide +kernel
theorem d_Model_ruled_157 : decode b_Model_ruled 157 = .ok (.iload_n 1, 1) := by decide +kernel
theorem d_Model_ruled_158 : decode b_Model_ruled 158 = .ok (.iaload, 1) := by decide +kernel
theorem d_Model_ruled_159 : decode b_Model_ruled 159 = .ok (.ifCond .le 5, 3) := by decide +kernel
theorem d_Model_ruled_162 : decode b_Model_ruled 162 = .ok (.iconst 4, 1) := by decide +kernel
theorem d_Model_ruled_163 : decode b_Model_ruled 163 = .ok (.ireturn, 1) := by decide +kernel
theorem d_Model_ruled_164 : decode b_Model_ruled 164 = .ok (.bipush 12, 2) := by decide +kernel
theorem d_Model_ruled_166 : decode b_Model_ruled 166 = .ok (.iload_n 1, 1) := by decide +kernel
theorem d_Model_ruled_167 : decode b_Model_ruled 167 = .ok (.imul, 1) := by decide +kernel
theorem d_Model_ruled_168 : decode b_Model_ruled 168 = .ok (.istore 4, 2) := by decide +kernel
theorem d_Model_ruled_170 : decode b_Model_ruled 170 = .ok (.iload 4, 2) := by decide +kernel
theorem d_Model_ruled_172 : decode b_Model_ruled 172 = .ok (.bipush 12, 2) := by decide +kernel
theorem d_Model_ruled_174 : decode b_Model_ruled 174 = .ok (.iload_n 1, 1) := by decide +kernel
theorem d_Model_ruled_175 : decode b_Model_ruled 175 = .ok (.imul, 1) := by decide +kernel
theorem d_Model_ruled_176 : decode b_Model_ruled 176 = .ok (.bipush 12, 2) := by decide +kernel
theorem d_Model_ruled_178 : decode b_Model_ruled 178 = .ok (.iadd, 1) := by decide +kernel
theorem d_Model_ruled_179 : decode b_Model_ruled 179 = .ok (.if_icmp .ge 17, 3) := by decide +kernel
theorem d_Model_ruled_182 : decode b_Model_ruled 182 = .ok (.aload_n 0, 1) := by decide +kernel
theorem d_Model_ruled_183 : decode b_Model_ruled 183 = .ok (.getfield 44, 3) := by decide +kernel
theorem d_Model_ruled_186 : decode b_Model_ruled 186 = .ok (.iload 4, 2) := by decide +kernel
theorem d_Model_ruled_188 : decode b_Model_ruled 188 = .ok (.iconst 0, 1) := by decide +kernel
theorem d_Model_ruled_189 : decode b_Model_ruled 189 = .ok (.iastore, 1) := by decide +kernel
theorem d_Model_ruled_190 : decode b_Model_ruled 190 = .ok (.iinc 4 1, 3) := by decide +kernel
theorem d_Model_ruled_193 : decode b_Model_ruled 193 = .ok (.goto (-23), 3) := by decide +kernel
theorem d_Model_ruled_196 : decode b_Model_ruled 196 = .ok (.aload_n 0, 1) := by decide +kernel
theorem d_Model_ruled_197 : decode b_Model_ruled 197 = .ok (.getfield 35, 3) := by decide +kernel
theorem d_Model_ruled_200 : decode b_Model_ruled 200 = .ok (.bipush 6, 2) := by decide +kernel
theorem d_Model_ruled_202 : decode b_Model_ruled 202 = .ok (.iload_n 1, 1) := by decide +kernel
theorem d_Model_ruled_203 : decode b_Model_ruled 203 = .ok (.imul, 1) := by decide +kernel
theorem d_Model_ruled_204 : decode b_Model_ruled 204 = .ok (.dup2, 1) := by decide +kernel
theorem d_Model_ruled_205 : decode b_Model_ruled 205 = .ok (.iaload, 1) := by decide +kernel
theorem d_Model_ruled_206 : decode b_Model_ruled 206 = .ok (.iconst 1, 1) := by decide +kernel
theorem d_Model_ruled_207 : decode b_Model_ruled 207 = .ok (.iadd, 1) := by decide +kernel
theorem d_Model_ruled_208 : decode b_Model_ruled 208 = .ok (.iastore, 1) := by decide +kernel
theorem d_Model_ruled_209 : decode b_Model_ruled 209 = .ok (.iconst 3, 1) := by decide +kernel
theorem d_Model_ruled_210 : decode b_Model_ruled 210 = .ok (.ireturn, 1) := by decide +kernel
theorem d_Model_ruled_211 : decode b_Model_ruled 211 = .ok (.aload_n 0, 1) := by decide +kernel
theorem d_Model_ruled_212 : decode b_Model_ruled 212 = .ok (.getfield 25, 3) := by decide +kernel
theorem d_Model_ruled_215 : decode b_Model_ruled 215 = .ok (.iload_n 1, 1) := by decide +kernel
theorem d_Model_ruled_216 : decode b_Model_ruled 216 = .ok (.iaload, 1) := by decide +kernel
theorem d_Model_ruled_217 : decode b_Model_ruled 217 = .ok (.ifCond .ne 5, 3) := by decide +kernel
theorem d_Model_ruled_220 : decode b_Model_ruled 220 = .ok (.iconst 4, 1) := by decide +kernel
theorem d_Model_ruled_221 : decode b_Model_ruled 221 = .ok (.ireturn, 1) := by decide +kernel
theorem d_Model_ruled_222 : decode b_Model_ruled 222 = .ok (.aload_n 0, 1) := by decide +kernel
theorem d_Model_ruled_223 : decode b_Model_ruled 223 = .ok (.iload_n 1, 1) := by decide +kernel
theorem d_Model_ruled_224 : decode b_Model_ruled 224 = .ok (.iconst 4, 1) := by decide +kernel
theorem d_Model_ruled_225 : decode b_Model_ruled 225 = .ok (.iconst 4, 1) := by decide +kernel
theorem d_Model_ruled_226 : decode b_Model_ruled 226 = .ok (.bipush 8, 2) := by decide +kernel
theorem d_Model_ruled_228 : decode b_Model_ruled 228 = .ok (.iload_n 3, 1) := by decide +kernel
theorem d_Model_ruled_229 : decode b_Model_ruled 229 = .ok (.sipush 255, 3) := by decide +kernel
theorem d_Model_ruled_232 : decode b_Model_ruled 232 = .ok (.iand, 1) := by decide +kernel
theorem d_Model_ruled_233 : decode b_Model_ruled 233 = .ok (.imul, 1) := by decide +kernel
theorem d_Model_ruled_234 : decode b_Model_ruled 234 = .ok (.iadd, 1) := by decide +kernel
theorem d_Model_ruled_235 : decode b_Model_ruled 235 = .ok (.invokevirtual 77, 3) := by decide +kernel
theorem d_Model_ruled_238 : decode b_Model_ruled 238 = .ok (.iconst 2, 1) := by decide +kernel
theorem d_Model_ruled_239 : decode b_Model_ruled 239 = .ok (.ireturn, 1) := by decide +kernel
theorem d_Model_fault_0 : decode b_Model_fault 0 = .ok (.aload_n 0, 1) := by decide +kernel
theorem d_Model_fault_1 : decode b_Model_fault 1 = .ok (.getfield 25, 3) := by decide +kernel
theorem d_Model_fault_4 : decode b_Model_fault 4 = .ok (.iload_n 1, 1) := by decide +kernel
theorem d_Model_fault_5 : decode b_Model_fault 5 = .ok (.iaload, 1) := by decide +kernel
theorem d_Model_fault_6 : decode b_Model_fault 6 = .ok (.ifCond .le 12, 3) := by decide +kernel
theorem d_Model_fault_9 : decode b_Model_fault 9 = .ok (.aload_n 0, 1) := by decide +kernel
theorem d_Model_fault_10 : decode b_Model_fault 10 = .ok (.iload_n 1, 1) := by decide +kernel
theorem d_Model_fault_11 : decode b_Model_fault 11 = .ok (.iconst 5, 1) := by decide +kernel
theorem d_Model_fault_12 : decode b_Model_fault 12 = .ok (.iconst 5, 1) := by decide +kernel
theorem d_Model_fault_13 : decode b_Model_fault 13 = .ok (.invokevirtual 77, 3) := by decide +kernel
theorem d_Model_fault_16 : decode b_Model_fault 16 = .ok (.iconst 2, 1) := by decide +kernel
theorem d_Model_fault_17 : decode b_Model_fault 17 = .ok (.ireturn, 1) := by decide +kernel
theorem d_Model_fault_18 : decode b_Model_fault 18 = .ok (.aload_n 0, 1) := by decide +kernel
theorem d_Model_fault_19 : decode b_Model_fault 19 = .ok (.getfield 31, 3) := by decide +kernel
theorem d_Model_fault_22 : decode b_Model_fault 22 = .ok (.iload_n 1, 1) := by decide +kernel
theorem d_Model_fault_23 : decode b_Model_fault 23 = .ok (.iconst 1, 1) := by decide +kernel
theorem d_Model_fault_24 : decode b_Model_fault 24 = .ok (.bastore, 1) := by decide +kernel
theorem d_Model_fault_25 : decode b_Model_fault 25 = .ok (.aload_n 0, 1) := by decide +kernel
theorem d_Model_fault_26 : decode b_Model_fault 26 = .ok (.getfield 22, 3) := by decide +kernel
theorem d_Model_fault_29 : decode b_Model_fault 29 = .ok (.iload_n 1, 1) := by decide +kernel
theorem d_Model_fault_30 : decode b_Model_fault 30 = .ok (.aload_n 0, 1) := by decide +kernel
theorem d_Model_fault_31 : decode b_Model_fault 31 = .ok (.getfield 22, 3) := by decide +kernel
theorem d_Model_fault_34 : decode b_Model_fault 34 = .ok (.iload_n 1, 1) := by decide +kernel
theorem d_Model_fault_35 : decode b_Model_fault 35 = .ok (.iaload, 1) := by decide +kernel
theorem d_Model_fault_36 : decode b_Model_fault 36 = .ok (.bipush 15, 2) := by decide +kernel
theorem d_Model_fault_38 : decode b_Model_fault 38 = .ok (.iadd, 1) := by decide +kernel
theorem d_Model_fault_39 : decode b_Model_fault 39 = .ok (.bipush 15, 2) := by decide +kernel
theorem d_Model_fault_41 : decode b_Model_fault 41 = .ok (.iand, 1) := by decide +kernel
theorem d_Model_fault_42 : decode b_Model_fault 42 = .ok (.iastore, 1) := by decide +kernel
theorem d_Model_fault_43 : decode b_Model_fault 43 = .ok (.iconst 0, 1) := by decide +kernel
theorem d_Model_fault_44 : decode b_Model_fault 44 = .ok (.ireturn, 1) := by decide +kernel
theorem d_Model_run_0 : decode b_Model_run 0 = .ok (.aload_n 0, 1) := by decide +kernel
theorem d_Model_run_1 : decode b_Model_run 1 = .ok (.iload_n 2, 1) := by decide +kernel
theorem d_Model_run_2 : decode b_Model_run 2 = .ok (.ifCond .lt 9, 3) := by decide +kernel
theorem d_Model_run_5 : decode b_Model_run 5 = .ok (.iload_n 2, 1) := by decide +kernel
theorem d_Model_run_6 : decode b_Model_run 6 = .ok (.bipush 16, 2) := by decide +kernel
theorem d_Model_run_8 : decode b_Model_run 8 = .ok (.if_icmp .le 7, 3) := by decide +kernel
theorem d_Model_run_11 : decode b_Model_run 11 = .ok (.iconst 1, 1) := by decide +kernel
theorem d_Model_run_12 : decode b_Model_run 12 = .ok (.goto 4, 3) := by decide +kernel
theorem d_Model_run_15 : decode b_Model_run 15 = .ok (.iconst 0, 1) := by decide +kernel
theorem d_Model_run_16 : decode b_Model_run 16 = .ok (.putfield 66, 3) := by decide +kernel
theorem d_Model_run_19 : decode b_Model_run 19 = .ok (.iconst 0, 1) := by decide +kernel
theorem d_Model_run_20 : decode b_Model_run 20 = .ok (.istore_n 3, 1) := by decide +kernel
theorem d_Model_run_21 : decode b_Model_run 21 = .ok (.iconst 0, 1) := by decide +kernel
theorem d_Model_run_22 : decode b_Model_run 22 = .ok (.istore 4, 2) := by decide +kernel
theorem d_Model_run_24 : decode b_Model_run 24 = .ok (.iload 4, 2) := by decide +kernel
theorem d_Model_run_26 : decode b_Model_run 26 = .ok (.iload_n 2, 1) := by decide +kernel
theorem d_Model_run_27 : decode b_Model_run 27 = .ok (.if_icmp .ge 45, 3) := by decide +kernel
theorem d_Model_run_30 : decode b_Model_run 30 = .ok (.aload_n 0, 1) := by decide +kernel
theorem d_Model_run_31 : decode b_Model_run 31 = .ok (.getfield 66, 3) := by decide +kernel
theorem d_Model_run_34 : decode b_Model_run 34 = .ok (.ifCond .ne 38, 3) := by decide +kernel
theorem d_Model_run_37 : decode b_Model_run 37 = .ok (.iload_n 3, 1) := by decide +kernel
theorem d_Model_run_38 : decode b_Model_run 38 = .ok (.aload_n 0, 1) := by decide +kernel
theorem d_Model_run_39 : decode b_Model_run 39 = .ok (.iload_n 1, 1) := by decide +kernel
theorem d_Model_run_40 : decode b_Model_run 40 = .ok (.iconst 2, 1) := by decide +kernel
theorem d_Model_run_41 : decode b_Model_run 41 = .ok (.iload 4, 2) := by decide +kernel
theorem d_Model_run_43 : decode b_Model_run 43 = .ok (.imul, 1) := by decide +kernel
theorem d_Model_run_44 : decode b_Model_run 44 = .ok (.ishr, 1) := by decide +kernel
theorem d_Model_run_45 : decode b_Model_run 45 = .ok (.iconst 3, 1) := by decide +kernel
theorem d_Model_run_46 : decode b_Model_run 46 = .ok (.iand, 1) := by decide +kernel
theorem d_Model_run_47 : decode b_Model_run 47 = .ok (.aload_n 0, 1) := by decide +kernel
theorem d_Model_run_48 : decode b_Model_run 48 = .ok (.getfield 56, 3) := by decide +kernel
theorem d_Model_run_51 : decode b_Model_run 51 = .ok (.irem, 1) := by decide +kernel
theorem d_Model_run_52 : decode b_Model_run 52 = .ok (.invokevirtual 117, 3) := by decide +kernel
theorem d_Model_run_55 : decode b_Model_run 55 = .ok (.iconst 3, 1) := by decide +kernel
theorem d_Model_run_56 : decode b_Model_run 56 = .ok (.if_icmp .ne 7, 3) := by decide +kernel
theorem d_Model_run_59 : decode b_Model_run 59 = .ok (.iconst 1, 1) := by decide +kernel
theorem d_Model_run_60 : decode b_Model_run 60 = .ok (.goto 4, 3) := by decide +kernel
theorem d_Model_run_63 : decode b_Model_run 63 = .ok (.iconst 0, 1) := by decide +kernel
theorem d_Model_run_64 : decode b_Model_run 64 = .ok (.iadd, 1) := by decide +kernel
theorem d_Model_run_65 : decode b_Model_run 65 = .ok (.istore_n 3, 1) := by decide +kernel
theorem d_Model_run_66 : decode b_Model_run 66 = .ok (.iinc 4 1, 3) := by decide +kernel
theorem d_Model_run_69 : decode b_Model_run 69 = .ok (.goto (-45), 3) := by decide +kernel
theorem d_Model_run_72 : decode b_Model_run 72 = .ok (.iload_n 3, 1) := by decide +kernel
theorem d_Model_run_73 : decode b_Model_run 73 = .ok (.ireturn, 1) := by decide +kernel
theorem d_Model_jump_0 : decode b_Model_jump 0 = .ok (.aload_n 0, 1) := by decide +kernel
theorem d_Model_jump_1 : decode b_Model_jump 1 = .ok (.aload_n 0, 1) := by decide +kernel
theorem d_Model_jump_2 : decode b_Model_jump 2 = .ok (.iload_n 1, 1) := by decide +kernel
theorem d_Model_jump_3 : decode b_Model_jump 3 = .ok (.invokevirtual 98, 3) := by decide +kernel
theorem d_Model_jump_6 : decode b_Model_jump 6 = .ok (.ifCond .ne 7, 3) := by decide +kernel
theorem d_Model_jump_9 : decode b_Model_jump 9 = .ok (.iconst 1, 1) := by decide +kernel
theorem d_Model_jump_10 : decode b_Model_jump 10 = .ok (.goto 17, 3) := by decide +kernel
theorem d_Model_jump_13 : decode b_Model_jump 13 = .ok (.aload_n 0, 1) := by decide +kernel
theorem d_Model_jump_14 : decode b_Model_jump 14 = .ok (.getfield 25, 3) := by decide +kernel
theorem d_Model_jump_17 : decode b_Model_jump 17 = .ok (.iload_n 1, 1) := by decide +kernel
theorem d_Model_jump_18 : decode b_Model_jump 18 = .ok (.iaload, 1) := by decide +kernel
theorem d_Model_jump_19 : decode b_Model_jump 19 = .ok (.ifCond .le 7, 3) := by decide +kernel
theorem d_Model_jump_22 : decode b_Model_jump 22 = .ok (.iconst 2, 1) := by decide +kernel
theorem d_Model_jump_23 : decode b_Model_jump 23 = .ok (.goto 4, 3) := by decide +kernel
theorem d_Model_jump_26 : decode b_Model_jump 26 = .ok (.iconst 0, 1) := by decide +kernel
theorem d_Model_jump_27 : decode b_Model_jump 27 = .ok (.putfield 66, 3) := by decide +kernel
theorem d_Model_jump_30 : decode b_Model_jump 30 = .ok (.aload_n 0, 1) := by decide +kernel
theorem d_Model_jump_31 : decode b_Model_jump 31 = .ok (.getfield 66, 3) := by decide +kernel
theorem d_Model_jump_34 : decode b_Model_jump 34 = .ok (.ifCond .le 4, 3) := by decide +kernel
theorem d_Model_jump_37 : decode b_Model_jump 37 = .ok (.return_, 1) := by decide +kernel
theorem d_Model_jump_38 : decode b_Model_jump 38 = .ok (.aload_n 0, 1) := by decide +kernel
theorem d_Model_jump_39 : decode b_Model_jump 39 = .ok (.getfield 22, 3) := by decide +kernel
theorem d_Model_jump_42 : decode b_Model_jump 42 = .ok (.iload_n 1, 1) := by decide +kernel
theorem d_Model_jump_43 : decode b_Model_jump 43 = .ok (.iload_n 2, 1) := by decide +kernel
theorem d_Model_jump_44 : decode b_Model_jump 44 = .ok (.bipush 15, 2) := by decide +kernel
theorem d_Model_jump_46 : decode b_Model_jump 46 = .ok (.iand, 1) := by decide +kernel
theorem d_Model_jump_47 : decode b_Model_jump 47 = .ok (.iastore, 1) := by decide +kernel
theorem d_Model_jump_48 : decode b_Model_jump 48 = .ok (.aload_n 0, 1) := by decide +kernel
theorem d_Model_jump_49 : decode b_Model_jump 49 = .ok (.getfield 31, 3) := by decide +kernel
theorem d_Model_jump_52 : decode b_Model_jump 52 = .ok (.iload_n 1, 1) := by decide +kernel
theorem d_Model_jump_53 : decode b_Model_jump 53 = .ok (.iconst 0, 1) := by decide +kernel
theorem d_Model_jump_54 : decode b_Model_jump 54 = .ok (.bastore, 1) := by decide +kernel
theorem d_Model_jump_55 : decode b_Model_jump 55 = .ok (.return_, 1) := by decide +kernel
theorem d_Model_register_0 : decode b_Model_register 0 = .ok (.aload_n 0, 1) := by decide +kernel
theorem d_Model_register_1 : decode b_Model_register 1 = .ok (.iconst 0, 1) := by decide +kernel
theorem d_Model_register_2 : decode b_Model_register 2 = .ok (.putfield 66, 3) := by decide +kernel
theorem d_Model_register_5 : decode b_Model_register 5 = .ok (.aload_n 0, 1) := by decide +kernel
theorem d_Model_register_6 : decode b_Model_register 6 = .ok (.iload_n 1, 1) := by decide +kernel
theorem d_Model_register_7 : decode b_Model_register 7 = .ok (.invokevirtual 98, 3) := by decide +kernel
theorem d_Model_register_10 : decode b_Model_register 10 = .ok (.ifCond .eq 13, 3) := by decide +kernel
theorem d_Model_register_13 : decode b_Model_register 13 = .ok (.iload_n 2, 1) := by decide +kernel
theorem d_Model_register_14 : decode b_Model_register 14 = .ok (.ifCond .lt 9, 3) := by decide +kernel
theorem d_Model_register_17 : decode b_Model_register 17 = .ok (.iload_n 2, 1) := by decide +kernel
theorem d_Model_register_18 : decode b_Model_register 18 = .ok (.bipush 10, 2) := by decide +kernel
theorem d_Model_register_20 : decode b_Model_register 20 = .ok (.if_icmp .le 9, 3) := by decide +kernel
theorem d_Model_register_23 : decode b_Model_register 23 = .ok (.aload_n 0, 1) := by decide +kernel
theorem d_Model_register_24 : decode b_Model_register 24 = .ok (.iconst 1, 1) := by decide +kernel
theorem d_Model_register_25 : decode b_Model_register 25 = .ok (.invokevirtual 120, 3) := by decide +kernel
theorem d_Model_register_28 : decode b_Model_register 28 = .ok (.ireturn, 1) := by decide +kernel
theorem d_Model_register_29 : decode b_Model_register 29 = .ok (.iload_n 2, 1) := by decide +kernel
theorem d_Model_register_30 : decode b_Model_register 30 = .ok (.bipush 8, 2) := by decide +kernel
theorem d_Model_register_32 : decode b_Model_register 32 = .ok (.if_icmp .ge 15, 3) := by decide +kernel
theorem d_Model_register_35 : decode b_Model_register 35 = .ok (.aload_n 0, 1) := by decide +kernel
theorem d_Model_register_36 : decode b_Model_register 36 = .ok (.getfield 13, 3) := by decide +kernel
theorem d_Model_register_39 : decode b_Model_register 39 = .ok (.bipush 8, 2) := by decide +kernel
theorem d_Model_register_41 : decode b_Model_register 41 = .ok (.iload_n 1, 1) := by decide +kernel
theorem d_Model_register_42 : decode b_Model_register 42 = .ok (.imul, 1) := by decide +kernel
theorem d_Model_register_43 : decode b_Model_register 43 = .ok (.iload_n 2, 1) := by decide +kernel
theorem d_Model_register_44 : decode b_Model_register 44 = .ok (.iadd, 1) := by decide +kernel
theorem d_Model_register_45 : decode b_Model_register 45 = .ok (.iaload, 1) := by decide +kernel
theorem d_Model_register_46 : decode b_Model_register 46 = .ok (.ireturn, 1) := by decide +kernel
theorem d_Model_register_47 : decode b_Model_register 47 = .ok (.iload_n 2, 1) := by decide +kernel
theorem d_Model_register_48 : decode b_Model_register 48 = .ok (.bipush 8, 2) := by decide +kernel
theorem d_Model_register_50 : decode b_Model_register 50 = .ok (.if_icmp .ne 12, 3) := by decide +kernel
theorem d_Model_register_53 : decode b_Model_register 53 = .ok (.aload_n 0, 1) := by decide +kernel
theorem d_Model_register_54 : decode b_Model_register 54 = .ok (.getfield 22, 3) := by decide +kernel
theorem d_Model_register_57 : decode b_Model_register 57 = .ok (.iload_n 1, 1) := by decide +kernel
theorem d_Model_register_58 : decode b_Model_register 58 = .ok (.iaload, 1) := by decide +kernel
theorem d_Model_register_59 : decode b_Model_register 59 = .ok (.goto 32, 3) := by decide +kernel
theorem d_Model_register_62 : decode b_Model_register 62 = .ok (.iload_n 2, 1) := by decide +kernel
theorem d_Model_register_63 : decode b_Model_register 63 = .ok (.bipush 9, 2) := by decide +kernel
theorem d_Model_register_65 : decode b_Model_register 65 = .ok (.if_icmp .ne 12, 3) := by decide +kernel
theorem d_Model_register_68 : decode b_Model_register 68 = .ok (.aload_n 0, 1) := by decide +kernel
theorem d_Model_register_69 : decode b_Model_register 69 = .ok (.getfield 25, 3) := by decide +kernel
theorem d_Model_register_72 : decode b_Model_register 72 = .ok (.iload_n 1, 1) := by decide +kernel
theorem d_Model_register_73 : decode b_Model_register 73 = .ok (.iaload, 1) := by decide +kernel
theorem d_Model_register_74 : decode b_Model_register 74 = .ok (.goto 17, 3) := by decide +kernel
theorem d_Model_register_77 : decode b_Model_register 77 = .ok (.aload_n 0, 1) := by decide +kernel
theorem d_Model_register_78 : decode b_Model_register 78 = .ok (.getfield 31, 3) := by decide +kernel
theorem d_Model_register_81 : decode b_Model_register 81 = .ok (.iload_n 1, 1) := by decide +kernel
theorem d_Model_register_82 : decode b_Model_register 82 = .ok (.baload, 1) := by decide +kernel
theorem d_Model_register_83 : decode b_Model_register 83 = .ok (.ifCond .eq 7, 3) := by decide +kernel
theorem d_Model_register_86 : decode b_Model_register 86 = .ok (.iconst 1, 1) := by decide +kernel
theorem d_Model_register_87 : decode b_Model_register 87 = .ok (.goto 4, 3) := by decide +kernel
theorem d_Model_register_90 : decode b_Model_register 90 = .ok (.iconst 0, 1) := by decide +kernel
theorem d_Model_register_91 : decode b_Model_register 91 = .ok (.ireturn, 1) := by decide +kernel
theorem d_Model_fail_0 : decode b_Model_fail 0 = .ok (.aload_n 0, 1) := by decide +kernel
theorem d_Model_fail_1 : decode b_Model_fail 1 = .ok (.iload_n 1, 1) := by decide +kernel
theorem d_Model_fail_2 : decode b_Model_fail 2 = .ok (.putfield 66, 3) := by decide +kernel
theorem d_Model_fail_5 : decode b_Model_fail 5 = .ok (.iconst 0, 1) := by decide +kernel
theorem d_Model_fail_6 : decode b_Model_fail 6 = .ok (.ireturn, 1) := by decide +kernel
theorem d_Model_fate_0 : decode b_Model_fate 0 = .ok (.aload_n 0, 1) := by decide +kernel
theorem d_Model_fate_1 : decode b_Model_fate 1 = .ok (.iconst 0, 1) := by decide +kernel
theorem d_Model_fate_2 : decode b_Model_fate 2 = .ok (.putfield 66, 3) := by decide +kernel
theorem d_Model_fate_5 : decode b_Model_fate 5 = .ok (.aload_n 0, 1) := by decide +kernel
theorem d_Model_fate_6 : decode b_Model_fate 6 = .ok (.iload_n 1, 1) := by decide +kernel
theorem d_Model_fate_7 : decode b_Model_fate 7 = .ok (.invokevirtual 98, 3) := by decide +kernel
theorem d_Model_fate_10 : decode b_Model_fate 10 = .ok (.ifCond .eq 26, 3) := by decide +kernel
theorem d_Model_fate_13 : decode b_Model_fate 13 = .ok (.iload_n 2, 1) := by decide +kernel
theorem d_Model_fate_14 : decode b_Model_fate 14 = .ok (.ifCond .lt 22, 3) := by decide +kernel
theorem d_Model_fate_17 : decode b_Model_fate 17 = .ok (.iload_n 2, 1) := by decide +kernel
theorem d_Model_fate_18 : decode b_Model_fate 18 = .ok (.iconst 5, 1) := by decide +kernel
theorem d_Model_fate_19 : decode b_Model_fate 19 = .ok (.if_icmp .gt 17, 3) := by decide +kernel
theorem d_Model_fate_22 : decode b_Model_fate 22 = .ok (.aload_n 0, 1) := by decide +kernel
theorem d_Model_fate_23 : decode b_Model_fate 23 = .ok (.getfield 35, 3) := by decide +kernel
theorem d_Model_fate_26 : decode b_Model_fate 26 = .ok (.bipush 6, 2) := by decide +kernel
theorem d_Model_fate_28 : decode b_Model_fate 28 = .ok (.iload_n 1, 1) := by decide +kernel
theorem d_Model_fate_29 : decode b_Model_fate 29 = .ok (.imul, 1) := by decide +kernel
theorem d_Model_fate_30 : decode b_Model_fate 30 = .ok (.iload_n 2, 1) := by decide +kernel
theorem d_Model_fate_31 : decode b_Model_fate 31 = .ok (.iadd, 1) := by decide +kernel
theorem d_Model_fate_32 : decode b_Model_fate 32 = .ok (.iaload, 1) := by decide +kernel
theorem d_Model_fate_33 : decode b_Model_fate 33 = .ok (.goto 8, 3) := by decide +kernel
theorem d_Model_fate_36 : decode b_Model_fate 36 = .ok (.aload_n 0, 1) := by decide +kernel
theorem d_Model_fate_37 : decode b_Model_fate 37 = .ok (.iconst 1, 1) := by decide +kernel
theorem d_Model_fate_38 : decode b_Model_fate 38 = .ok (.invokevirtual 120, 3) := by decide +kernel
theorem d_Model_fate_41 : decode b_Model_fate 41 = .ok (.ireturn, 1) := by decide +kernel
theorem d_Model_way_0 : decode b_Model_way 0 = .ok (.aload_n 0, 1) := by decide +kernel
theorem d_Model_way_1 : decode b_Model_way 1 = .ok (.iconst 0, 1) := by decide +kernel
theorem d_Model_way_2 : decode b_Model_way 2 = .ok (.putfield 66, 3) := by decide +kernel
theorem d_Model_way_5 : decode b_Model_way 5 = .ok (.aload_n 0, 1) := by decide +kernel
theorem d_Model_way_6 : decode b_Model_way 6 = .ok (.iload_n 1, 1) := by decide +kernel
theorem d_Model_way_7 : decode b_Model_way 7 = .ok (.invokevirtual 98, 3) := by decide +kernel
theorem d_Model_way_10 : decode b_Model_way 10 = .ok (.ifCond .eq 38, 3) := by decide +kernel
theorem d_Model_way_13 : decode b_Model_way 13 = .ok (.iload_n 2, 1) := by decide +kernel
theorem d_Model_way_14 : decode b_Model_way 14 = .ok (.ifCond .lt 34, 3) := by decide +kernel
theorem d_Model_way_17 : decode b_Model_way 17 = .ok (.iload_n 2, 1) := by decide +kernel
theorem d_Model_way_18 : decode b_Model_way 18 = .ok (.aload_n 0, 1) := by decide +kernel
theorem d_Model_way_19 : decode b_Model_way 19 = .ok (.getfield 60, 3) := by decide +kernel
theorem d_Model_way_22 : decode b_Model_way 22 = .ok (.if_icmp .ge 26, 3) := by decide +kernel
theorem d_Model_way_25 : decode b_Model_way 25 = .ok (.iload_n 3, 1) := by decide +kernel
theorem d_Model_way_26 : decode b_Model_way 26 = .ok (.ifCond .lt 22, 3) := by decide +kernel
theorem d_Model_way_29 : decode b_Model_way 29 = .ok (.iload_n 3, 1) := by decide +kernel
theorem d_Model_way_30 : decode b_Model_way 30 = .ok (.aload_n 0, 1) := by decide +kernel
theorem d_Model_way_31 : decode b_Model_way 31 = .ok (.getfield 63, 3) := by decide +kernel
theorem d_Model_way_34 : decode b_Model_way 34 = .ok (.if_icmp .ge 14, 3) := by decide +kernel
theorem d_Model_way_37 : decode b_Model_way 37 = .ok (.iload 4, 2) := by decide +kernel
theorem d_Model_way_39 : decode b_Model_way 39 = .ok (.ifCond .lt 9, 3) := by decide +kernel
theorem d_Model_way_42 : decode b_Model_way 42 = .ok (.iload 4, 2) := by decide +kernel
theorem d_Model_way_44 : decode b_Model_way 44 = .ok (.iconst 4, 1) := by decide +kernel
theorem d_Model_way_45 : decode b_Model_way 45 = .ok (.if_icmp .le 9, 3) := by decide +kernel
theorem d_Model_way_48 : decode b_Model_way 48 = .ok (.aload_n 0, 1) := by decide +kernel
theorem d_Model_way_49 : decode b_Model_way 49 = .ok (.iconst 1, 1) := by decide +kernel
theorem d_Model_way_50 : decode b_Model_way 50 = .ok (.invokevirtual 120, 3) := by decide +kernel
theorem d_Model_way_53 : decode b_Model_way 53 = .ok (.ireturn, 1) := by decide +kernel
theorem d_Model_way_54 : decode b_Model_way 54 = .ok (.bipush 12, 2) := by decide +kernel
theorem d_Model_way_56 : decode b_Model_way 56 = .ok (.iload_n 1, 1) := by decide +kernel
theorem d_Model_way_57 : decode b_Model_way 57 = .ok (.imul, 1) := by decide +kernel
theorem d_Model_way_58 : decode b_Model_way 58 = .ok (.iconst 3, 1) := by decide +kernel
theorem d_Model_way_59 : decode b_Model_way 59 = .ok (.iload_n 2, 1) := by decide +kernel
theorem d_Model_way_60 : decode b_Model_way 60 = .ok (.imul, 1) := by decide +kernel
theorem d_Model_way_61 : decode b_Model_way 61 = .ok (.iadd, 1) := by decide +kernel
theorem d_Model_way_62 : decode b_Model_way 62 = .ok (.iload_n 3, 1) := by decide +kernel
theorem d_Model_way_63 : decode b_Model_way 63 = .ok (.iadd, 1) := by decide +kernel
theorem d_Model_way_64 : decode b_Model_way 64 = .ok (.istore 5, 2) := by decide +kernel
theorem d_Model_way_66 : decode b_Model_way 66 = .ok (.iload 4, 2) := by decide +kernel
theorem d_Model_way_68 : decode b_Model_way 68 = .ok (.ifCond .ne 11, 3) := by decide +kernel
theorem d_Model_way_71 : decode b_Model_way 71 = .ok (.aload_n 0, 1) := by decide +kernel
theorem d_Model_way_72 : decode b_Model_way 72 = .ok (.getfield 38, 3) := by decide +kernel
theorem d_Model_way_75 : decode b_Model_way 75 = .ok (.iload 5, 2) := by decide +kernel
theorem d_Model_way_77 : decode b_Model_way 77 = .ok (.iaload, 1) := by decide +kernel
theorem d_Model_way_78 : decode b_Model_way 78 = .ok (.ireturn, 1) := by decide +kernel
theorem d_Model_way_79 : decode b_Model_way 79 = .ok (.aload_n 0, 1) := by decide +kernel
theorem d_Model_way_80 : decode b_Model_way 80 = .ok (.getfield 38, 3) := by decide +kernel
theorem d_Model_way_83 : decode b_Model_way 83 = .ok (.iload 5, 2) := by decide +kernel
theorem d_Model_way_85 : decode b_Model_way 85 = .ok (.iaload, 1) := by decide +kernel
theorem d_Model_way_86 : decode b_Model_way 86 = .ok (.ifCond .ne 5, 3) := by decide +kernel
theorem d_Model_way_89 : decode b_Model_way 89 = .ok (.iconst (-1), 1) := by decide +kernel
theorem d_Model_way_90 : decode b_Model_way 90 = .ok (.ireturn, 1) := by decide +kernel
theorem d_Model_way_91 : decode b_Model_way 91 = .ok (.iload 4, 2) := by decide +kernel
theorem d_Model_way_93 : decode b_Model_way 93 = .ok (.iconst 1, 1) := by decide +kernel
theorem d_Model_way_94 : decode b_Model_way 94 = .ok (.if_icmp .ne 13, 3) := by decide +kernel
theorem d_Model_way_97 : decode b_Model_way 97 = .ok (.aload_n 0, 1) := by decide +kernel
theorem d_Model_way_98 : decode b_Model_way 98 = .ok (.getfield 41, 3) := by decide +kernel
theorem d_Model_way_101 : decode b_Model_way 101 = .ok (.iload 5, 2) := by decide +kernel
theorem d_Model_way_103 : decode b_Model_way 103 = .ok (.iaload, 1) := by decide +kernel
theorem d_Model_way_104 : decode b_Model_way 104 = .ok (.goto 42, 3) := by decide +kernel
theorem d_Model_way_107 : decode b_Model_way 107 = .ok (.iload 4, 2) := by decide +kernel
theorem d_Model_way_109 : decode b_Model_way 109 = .ok (.iconst 2, 1) := by decide +kernel
theorem d_Model_way_110 : decode b_Model_way 110 = .ok (.if_icmp .ne 13, 3) := by decide +kernel
theorem d_Model_way_113 : decode b_Model_way 113 = .ok (.aload_n 0, 1) := by decide +kernel
theorem d_Model_way_114 : decode b_Model_way 114 = .ok (.getfield 44, 3) := by decide +kernel
theorem d_Model_way_117 : decode b_Model_way 117 = .ok (.iload 5, 2) := by decide +kernel
theorem d_Model_way_119 : decode b_Model_way 119 = .ok (.iaload, 1) := by decide +kernel
theorem d_Model_way_120 : decode b_Model_way 120 = .ok (.goto 26, 3) := by decide +kernel
theorem d_Model_way_123 : decode b_Model_way 123 = .ok (.iload 4, 2) := by decide +kernel
theorem d_Model_way_125 : decode b_Model_way 125 = .ok (.iconst 3, 1) := by decide +kernel
theorem d_Model_way_126 : decode b_Model_way 126 = .ok (.if_icmp .ne 13, 3) := by decide +kernel
theorem d_Model_way_129 : decode b_Model_way 129 = .ok (.aload_n 0, 1) := by decide +kernel
theorem d_Model_way_130 : decode b_Model_way 130 = .ok (.getfield 47, 3) := by decide +kernel
theorem d_Model_way_133 : decode b_Model_way 133 = .ok (.iload 5, 2) := by decide +kernel
theorem d_Model_way_135 : decode b_Model_way 135 = .ok (.iaload, 1) := by decide +kernel
theorem d_Model_way_136 : decode b_Model_way 136 = .ok (.goto 10, 3) := by decide +kernel
theorem d_Model_way_139 : decode b_Model_way 139 = .ok (.aload_n 0, 1) := by decide +kernel
theorem d_Model_way_140 : decode b_Model_way 140 = .ok (.getfield 50, 3) := by decide +kernel
theorem d_Model_way_143 : decode b_Model_way 143 = .ok (.iload 5, 2) := by decide +kernel
theorem d_Model_way_145 : decode b_Model_way 145 = .ok (.iaload, 1) := by decide +kernel
theorem d_Model_way_146 : decode b_Model_way 146 = .ok (.ireturn, 1) := by decide +kernel
theorem d_Model_memory_0 : decode b_Model_memory 0 = .ok (.aload_n 0, 1) := by decide +kernel
theorem d_Model_memory_1 : decode b_Model_memory 1 = .ok (.iconst 0, 1) := by decide +kernel
theorem d_Model_memory_2 : decode b_Model_memory 2 = .ok (.putfield 66, 3) := by decide +kernel
theorem d_Model_memory_5 : decode b_Model_memory 5 = .ok (.aload_n 0, 1) := by decide +kernel
theorem d_Model_memory_6 : decode b_Model_memory 6 = .ok (.getfield 7, 3) := by decide +kernel
theorem d_Model_memory_9 : decode b_Model_memory 9 = .ok (.iload_n 1, 1) := by decide +kernel
theorem d_Model_memory_10 : decode b_Model_memory 10 = .ok (.bipush 63, 2) := by decide +kernel
theorem d_Model_memory_12 : decode b_Model_memory 12 = .ok (.iand, 1) := by decide +kernel
theorem d_Model_memory_13 : decode b_Model_memory 13 = .ok (.iaload, 1) := by decide +kernel
theorem d_Model_memory_14 : decode b_Model_memory 14 = .ok (.ireturn, 1) := by decide +kernel
theorem d_Model_requests_0 : decode b_Model_requests 0 = .ok (.aload_n 0, 1) := by decide +kernel
theorem d_Model_requests_1 : decode b_Model_requests 1 = .ok (.iconst 0, 1) := by decide +kernel
theorem d_Model_requests_2 : decode b_Model_requests 2 = .ok (.putfield 66, 3) := by decide +kernel
theorem d_Model_requests_5 : decode b_Model_requests 5 = .ok (.aload_n 0, 1) := by decide +kernel
theorem d_Model_requests_6 : decode b_Model_requests 6 = .ok (.getfield 88, 3) := by decide +kernel
theorem d_Model_requests_9 : decode b_Model_requests 9 = .ok (.ireturn, 1) := by decide +kernel
