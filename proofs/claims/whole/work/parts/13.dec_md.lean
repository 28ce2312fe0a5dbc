/-! decode rows, by wip/whole/gen_facts.py -/
theorem d_md_init_0 : decode m_md_init.2.1 0 = .ok (.aload_n 0, 1) := by decide +kernel
theorem d_md_init_1 : decode m_md_init.2.1 1 = .ok (.invokespecial 1, 3) := by decide +kernel
theorem d_md_init_4 : decode m_md_init.2.1 4 = .ok (.aload_n 0, 1) := by decide +kernel
theorem d_md_init_5 : decode m_md_init.2.1 5 = .ok (.sipush 240, 3) := by decide +kernel
theorem d_md_init_8 : decode m_md_init.2.1 8 = .ok (.newarray .int, 2) := by decide +kernel
theorem d_md_init_10 : decode m_md_init.2.1 10 = .ok (.putfield 7, 3) := by decide +kernel
theorem d_md_init_13 : decode m_md_init.2.1 13 = .ok (.aload_n 0, 1) := by decide +kernel
theorem d_md_init_14 : decode m_md_init.2.1 14 = .ok (.sipush 240, 3) := by decide +kernel
theorem d_md_init_17 : decode m_md_init.2.1 17 = .ok (.newarray .int, 2) := by decide +kernel
theorem d_md_init_19 : decode m_md_init.2.1 19 = .ok (.putfield 13, 3) := by decide +kernel
theorem d_md_init_22 : decode m_md_init.2.1 22 = .ok (.aload_n 0, 1) := by decide +kernel
theorem d_md_init_23 : decode m_md_init.2.1 23 = .ok (.sipush 240, 3) := by decide +kernel
theorem d_md_init_26 : decode m_md_init.2.1 26 = .ok (.newarray .int, 2) := by decide +kernel
theorem d_md_init_28 : decode m_md_init.2.1 28 = .ok (.putfield 16, 3) := by decide +kernel
theorem d_md_init_31 : decode m_md_init.2.1 31 = .ok (.aload_n 0, 1) := by decide +kernel
theorem d_md_init_32 : decode m_md_init.2.1 32 = .ok (.sipush 240, 3) := by decide +kernel
theorem d_md_init_35 : decode m_md_init.2.1 35 = .ok (.newarray .int, 2) := by decide +kernel
theorem d_md_init_37 : decode m_md_init.2.1 37 = .ok (.putfield 19, 3) := by decide +kernel
theorem d_md_init_40 : decode m_md_init.2.1 40 = .ok (.aload_n 0, 1) := by decide +kernel
theorem d_md_init_41 : decode m_md_init.2.1 41 = .ok (.iconst 3, 1) := by decide +kernel
theorem d_md_init_42 : decode m_md_init.2.1 42 = .ok (.newarray .int, 2) := by decide +kernel
theorem d_md_init_44 : decode m_md_init.2.1 44 = .ok (.putfield 22, 3) := by decide +kernel
theorem d_md_init_47 : decode m_md_init.2.1 47 = .ok (.aload_n 0, 1) := by decide +kernel
theorem d_md_init_48 : decode m_md_init.2.1 48 = .ok (.iconst 3, 1) := by decide +kernel
theorem d_md_init_49 : decode m_md_init.2.1 49 = .ok (.newarray .int, 2) := by decide +kernel
theorem d_md_init_51 : decode m_md_init.2.1 51 = .ok (.putfield 25, 3) := by decide +kernel
theorem d_md_init_54 : decode m_md_init.2.1 54 = .ok (.aload_n 0, 1) := by decide +kernel
theorem d_md_init_55 : decode m_md_init.2.1 55 = .ok (.iconst 3, 1) := by decide +kernel
theorem d_md_init_56 : decode m_md_init.2.1 56 = .ok (.newarray .int, 2) := by decide +kernel
theorem d_md_init_58 : decode m_md_init.2.1 58 = .ok (.putfield 28, 3) := by decide +kernel
theorem d_md_init_61 : decode m_md_init.2.1 61 = .ok (.aload_n 0, 1) := by decide +kernel
theorem d_md_init_62 : decode m_md_init.2.1 62 = .ok (.iconst 3, 1) := by decide +kernel
theorem d_md_init_63 : decode m_md_init.2.1 63 = .ok (.newarray .boolean, 2) := by decide +kernel
theorem d_md_init_65 : decode m_md_init.2.1 65 = .ok (.putfield 31, 3) := by decide +kernel
theorem d_md_init_68 : decode m_md_init.2.1 68 = .ok (.aload_n 0, 1) := by decide +kernel
theorem d_md_init_69 : decode m_md_init.2.1 69 = .ok (.iconst 3, 1) := by decide +kernel
theorem d_md_init_70 : decode m_md_init.2.1 70 = .ok (.newarray .boolean, 2) := by decide +kernel
theorem d_md_init_72 : decode m_md_init.2.1 72 = .ok (.putfield 35, 3) := by decide +kernel
theorem d_md_init_75 : decode m_md_init.2.1 75 = .ok (.aload_n 0, 1) := by decide +kernel
theorem d_md_init_76 : decode m_md_init.2.1 76 = .ok (.iconst 1, 1) := by decide +kernel
theorem d_md_init_77 : decode m_md_init.2.1 77 = .ok (.putfield 38, 3) := by decide +kernel
theorem d_md_init_80 : decode m_md_init.2.1 80 = .ok (.aload_n 0, 1) := by decide +kernel
theorem d_md_init_81 : decode m_md_init.2.1 81 = .ok (.iconst 4, 1) := by decide +kernel
theorem d_md_init_82 : decode m_md_init.2.1 82 = .ok (.newarray .boolean, 2) := by decide +kernel
theorem d_md_init_84 : decode m_md_init.2.1 84 = .ok (.putfield 42, 3) := by decide +kernel
theorem d_md_init_87 : decode m_md_init.2.1 87 = .ok (.aload_n 0, 1) := by decide +kernel
theorem d_md_init_88 : decode m_md_init.2.1 88 = .ok (.iconst 4, 1) := by decide +kernel
theorem d_md_init_89 : decode m_md_init.2.1 89 = .ok (.newarray .boolean, 2) := by decide +kernel
theorem d_md_init_91 : decode m_md_init.2.1 91 = .ok (.putfield 45, 3) := by decide +kernel
theorem d_md_init_94 : decode m_md_init.2.1 94 = .ok (.aload_n 0, 1) := by decide +kernel
theorem d_md_init_95 : decode m_md_init.2.1 95 = .ok (.iconst 4, 1) := by decide +kernel
theorem d_md_init_96 : decode m_md_init.2.1 96 = .ok (.newarray .int, 2) := by decide +kernel
theorem d_md_init_98 : decode m_md_init.2.1 98 = .ok (.putfield 48, 3) := by decide +kernel
theorem d_md_init_101 : decode m_md_init.2.1 101 = .ok (.aload_n 0, 1) := by decide +kernel
theorem d_md_init_102 : decode m_md_init.2.1 102 = .ok (.iconst 4, 1) := by decide +kernel
theorem d_md_init_103 : decode m_md_init.2.1 103 = .ok (.newarray .int, 2) := by decide +kernel
theorem d_md_init_105 : decode m_md_init.2.1 105 = .ok (.putfield 51, 3) := by decide +kernel
theorem d_md_init_108 : decode m_md_init.2.1 108 = .ok (.aload_n 0, 1) := by decide +kernel
theorem d_md_init_109 : decode m_md_init.2.1 109 = .ok (.iconst 4, 1) := by decide +kernel
theorem d_md_init_110 : decode m_md_init.2.1 110 = .ok (.newarray .int, 2) := by decide +kernel
theorem d_md_init_112 : decode m_md_init.2.1 112 = .ok (.putfield 54, 3) := by decide +kernel
theorem d_md_init_115 : decode m_md_init.2.1 115 = .ok (.aload_n 0, 1) := by decide +kernel
theorem d_md_init_116 : decode m_md_init.2.1 116 = .ok (.sipush 1036, 3) := by decide +kernel
theorem d_md_init_119 : decode m_md_init.2.1 119 = .ok (.newarray .boolean, 2) := by decide +kernel
theorem d_md_init_121 : decode m_md_init.2.1 121 = .ok (.putfield 57, 3) := by decide +kernel
theorem d_md_init_124 : decode m_md_init.2.1 124 = .ok (.aload_n 0, 1) := by decide +kernel
theorem d_md_init_125 : decode m_md_init.2.1 125 = .ok (.sipush 1036, 3) := by decide +kernel
theorem d_md_init_128 : decode m_md_init.2.1 128 = .ok (.newarray .boolean, 2) := by decide +kernel
theorem d_md_init_130 : decode m_md_init.2.1 130 = .ok (.putfield 60, 3) := by decide +kernel
theorem d_md_init_133 : decode m_md_init.2.1 133 = .ok (.aload_n 0, 1) := by decide +kernel
theorem d_md_init_134 : decode m_md_init.2.1 134 = .ok (.bipush 32, 2) := by decide +kernel
theorem d_md_init_136 : decode m_md_init.2.1 136 = .ok (.newarray .int, 2) := by decide +kernel
theorem d_md_init_138 : decode m_md_init.2.1 138 = .ok (.putfield 63, 3) := by decide +kernel
theorem d_md_init_141 : decode m_md_init.2.1 141 = .ok (.aload_n 0, 1) := by decide +kernel
theorem d_md_init_142 : decode m_md_init.2.1 142 = .ok (.iconst 4, 1) := by decide +kernel
theorem d_md_init_143 : decode m_md_init.2.1 143 = .ok (.newarray .int, 2) := by decide +kernel
theorem d_md_init_145 : decode m_md_init.2.1 145 = .ok (.putfield 66, 3) := by decide +kernel
theorem d_md_init_148 : decode m_md_init.2.1 148 = .ok (.aload_n 0, 1) := by decide +kernel
theorem d_md_init_149 : decode m_md_init.2.1 149 = .ok (.sipush 259, 3) := by decide +kernel
theorem d_md_init_152 : decode m_md_init.2.1 152 = .ok (.newarray .boolean, 2) := by decide +kernel
theorem d_md_init_154 : decode m_md_init.2.1 154 = .ok (.putfield 69, 3) := by decide +kernel
theorem d_md_init_157 : decode m_md_init.2.1 157 = .ok (.aload_n 0, 1) := by decide +kernel
theorem d_md_init_158 : decode m_md_init.2.1 158 = .ok (.sipush 259, 3) := by decide +kernel
theorem d_md_init_161 : decode m_md_init.2.1 161 = .ok (.newarray .int, 2) := by decide +kernel
theorem d_md_init_163 : decode m_md_init.2.1 163 = .ok (.putfield 72, 3) := by decide +kernel
theorem d_md_init_166 : decode m_md_init.2.1 166 = .ok (.aload_n 0, 1) := by decide +kernel
theorem d_md_init_167 : decode m_md_init.2.1 167 = .ok (.sipush 259, 3) := by decide +kernel
theorem d_md_init_170 : decode m_md_init.2.1 170 = .ok (.newarray .int, 2) := by decide +kernel
theorem d_md_init_172 : decode m_md_init.2.1 172 = .ok (.putfield 75, 3) := by decide +kernel
theorem d_md_init_175 : decode m_md_init.2.1 175 = .ok (.aload_n 0, 1) := by decide +kernel
theorem d_md_init_176 : decode m_md_init.2.1 176 = .ok (.sipush 259, 3) := by decide +kernel
theorem d_md_init_179 : decode m_md_init.2.1 179 = .ok (.newarray .int, 2) := by decide +kernel
theorem d_md_init_181 : decode m_md_init.2.1 181 = .ok (.putfield 78, 3) := by decide +kernel
theorem d_md_init_184 : decode m_md_init.2.1 184 = .ok (.aload_n 0, 1) := by decide +kernel
theorem d_md_init_185 : decode m_md_init.2.1 185 = .ok (.sipush 259, 3) := by decide +kernel
theorem d_md_init_188 : decode m_md_init.2.1 188 = .ok (.newarray .int, 2) := by decide +kernel
theorem d_md_init_190 : decode m_md_init.2.1 190 = .ok (.putfield 81, 3) := by decide +kernel
theorem d_md_init_193 : decode m_md_init.2.1 193 = .ok (.iconst 0, 1) := by decide +kernel
theorem d_md_init_194 : decode m_md_init.2.1 194 = .ok (.istore_n 1, 1) := by decide +kernel
theorem d_md_init_195 : decode m_md_init.2.1 195 = .ok (.iload_n 1, 1) := by decide +kernel
theorem d_md_init_196 : decode m_md_init.2.1 196 = .ok (.iconst 3, 1) := by decide +kernel
theorem d_md_init_197 : decode m_md_init.2.1 197 = .ok (.if_icmp .ge (16), 3) := by decide +kernel
theorem d_md_init_200 : decode m_md_init.2.1 200 = .ok (.aload_n 0, 1) := by decide +kernel
theorem d_md_init_201 : decode m_md_init.2.1 201 = .ok (.getfield 28, 3) := by decide +kernel
theorem d_md_init_204 : decode m_md_init.2.1 204 = .ok (.iload_n 1, 1) := by decide +kernel
theorem d_md_init_205 : decode m_md_init.2.1 205 = .ok (.iconst 1, 1) := by decide +kernel
theorem d_md_init_206 : decode m_md_init.2.1 206 = .ok (.iastore, 1) := by decide +kernel
theorem d_md_init_207 : decode m_md_init.2.1 207 = .ok (.iinc 1 1, 3) := by decide +kernel
theorem d_md_init_210 : decode m_md_init.2.1 210 = .ok (.goto (-15), 3) := by decide +kernel
theorem d_md_init_213 : decode m_md_init.2.1 213 = .ok (.return_, 1) := by decide +kernel
theorem d_md_thrown_0 : decode m_md_thrown.2.1 0 = .ok (.aload_n 0, 1) := by decide +kernel
theorem d_md_thrown_1 : decode m_md_thrown.2.1 1 = .ok (.getfield 84, 3) := by decide +kernel
theorem d_md_thrown_4 : decode m_md_thrown.2.1 4 = .ok (.ireturn, 1) := by decide +kernel
theorem d_md_open_0 : decode m_md_open.2.1 0 = .ok (.aload_n 0, 1) := by decide +kernel
theorem d_md_open_1 : decode m_md_open.2.1 1 = .ok (.iconst 0, 1) := by decide +kernel
theorem d_md_open_2 : decode m_md_open.2.1 2 = .ok (.putfield 84, 3) := by decide +kernel
theorem d_md_open_5 : decode m_md_open.2.1 5 = .ok (.aload_n 0, 1) := by decide +kernel
theorem d_md_open_6 : decode m_md_open.2.1 6 = .ok (.iload_n 1, 1) := by decide +kernel
theorem d_md_open_7 : decode m_md_open.2.1 7 = .ok (.iconst 4, 1) := by decide +kernel
theorem d_md_open_8 : decode m_md_open.2.1 8 = .ok (.invokevirtual 145, 3) := by decide +kernel
theorem d_md_open_11 : decode m_md_open.2.1 11 = .ok (.ifCond .ne (24), 3) := by decide +kernel
theorem d_md_open_14 : decode m_md_open.2.1 14 = .ok (.aload_n 0, 1) := by decide +kernel
theorem d_md_open_15 : decode m_md_open.2.1 15 = .ok (.iload_n 2, 1) := by decide +kernel
theorem d_md_open_16 : decode m_md_open.2.1 16 = .ok (.iconst 3, 1) := by decide +kernel
theorem d_md_open_17 : decode m_md_open.2.1 17 = .ok (.invokevirtual 145, 3) := by decide +kernel
theorem d_md_open_20 : decode m_md_open.2.1 20 = .ok (.ifCond .ne (15), 3) := by decide +kernel
theorem d_md_open_23 : decode m_md_open.2.1 23 = .ok (.aload_n 0, 1) := by decide +kernel
theorem d_md_open_24 : decode m_md_open.2.1 24 = .ok (.iload_n 3, 1) := by decide +kernel
theorem d_md_open_25 : decode m_md_open.2.1 25 = .ok (.iconst 1, 1) := by decide +kernel
theorem d_md_open_26 : decode m_md_open.2.1 26 = .ok (.isub, 1) := by decide +kernel
theorem d_md_open_27 : decode m_md_open.2.1 27 = .ok (.bipush 50, 2) := by decide +kernel
theorem d_md_open_29 : decode m_md_open.2.1 29 = .ok (.invokevirtual 145, 3) := by decide +kernel
theorem d_md_open_32 : decode m_md_open.2.1 32 = .ok (.ifCond .eq (9), 3) := by decide +kernel
theorem d_md_open_35 : decode m_md_open.2.1 35 = .ok (.aload_n 0, 1) := by decide +kernel
theorem d_md_open_36 : decode m_md_open.2.1 36 = .ok (.iconst 1, 1) := by decide +kernel
theorem d_md_open_37 : decode m_md_open.2.1 37 = .ok (.invokevirtual 149, 3) := by decide +kernel
theorem d_md_open_40 : decode m_md_open.2.1 40 = .ok (.ireturn, 1) := by decide +kernel
theorem d_md_open_41 : decode m_md_open.2.1 41 = .ok (.aload_n 0, 1) := by decide +kernel
theorem d_md_open_42 : decode m_md_open.2.1 42 = .ok (.getfield 42, 3) := by decide +kernel
theorem d_md_open_45 : decode m_md_open.2.1 45 = .ok (.iload_n 1, 1) := by decide +kernel
theorem d_md_open_46 : decode m_md_open.2.1 46 = .ok (.baload, 1) := by decide +kernel
theorem d_md_open_47 : decode m_md_open.2.1 47 = .ok (.ifCond .ne (27), 3) := by decide +kernel
theorem d_md_open_50 : decode m_md_open.2.1 50 = .ok (.aload_n 0, 1) := by decide +kernel
theorem d_md_open_51 : decode m_md_open.2.1 51 = .ok (.getfield 45, 3) := by decide +kernel
theorem d_md_open_54 : decode m_md_open.2.1 54 = .ok (.iload_n 1, 1) := by decide +kernel
theorem d_md_open_55 : decode m_md_open.2.1 55 = .ok (.baload, 1) := by decide +kernel
theorem d_md_open_56 : decode m_md_open.2.1 56 = .ok (.ifCond .ne (18), 3) := by decide +kernel
theorem d_md_open_59 : decode m_md_open.2.1 59 = .ok (.aload_n 0, 1) := by decide +kernel
theorem d_md_open_60 : decode m_md_open.2.1 60 = .ok (.iload_n 2, 1) := by decide +kernel
theorem d_md_open_61 : decode m_md_open.2.1 61 = .ok (.invokevirtual 112, 3) := by decide +kernel
theorem d_md_open_64 : decode m_md_open.2.1 64 = .ok (.ifCond .eq (10), 3) := by decide +kernel
theorem d_md_open_67 : decode m_md_open.2.1 67 = .ok (.aload_n 0, 1) := by decide +kernel
theorem d_md_open_68 : decode m_md_open.2.1 68 = .ok (.invokevirtual 118, 3) := by decide +kernel
theorem d_md_open_71 : decode m_md_open.2.1 71 = .ok (.ifCond .ne (9), 3) := by decide +kernel
theorem d_md_open_74 : decode m_md_open.2.1 74 = .ok (.aload_n 0, 1) := by decide +kernel
theorem d_md_open_75 : decode m_md_open.2.1 75 = .ok (.iconst 2, 1) := by decide +kernel
theorem d_md_open_76 : decode m_md_open.2.1 76 = .ok (.invokevirtual 149, 3) := by decide +kernel
theorem d_md_open_79 : decode m_md_open.2.1 79 = .ok (.ireturn, 1) := by decide +kernel
theorem d_md_open_80 : decode m_md_open.2.1 80 = .ok (.aload_n 0, 1) := by decide +kernel
theorem d_md_open_81 : decode m_md_open.2.1 81 = .ok (.getfield 42, 3) := by decide +kernel
theorem d_md_open_84 : decode m_md_open.2.1 84 = .ok (.iload_n 1, 1) := by decide +kernel
theorem d_md_open_85 : decode m_md_open.2.1 85 = .ok (.iconst 1, 1) := by decide +kernel
theorem d_md_open_86 : decode m_md_open.2.1 86 = .ok (.bastore, 1) := by decide +kernel
theorem d_md_open_87 : decode m_md_open.2.1 87 = .ok (.aload_n 0, 1) := by decide +kernel
theorem d_md_open_88 : decode m_md_open.2.1 88 = .ok (.getfield 48, 3) := by decide +kernel
theorem d_md_open_91 : decode m_md_open.2.1 91 = .ok (.iload_n 1, 1) := by decide +kernel
theorem d_md_open_92 : decode m_md_open.2.1 92 = .ok (.iload_n 2, 1) := by decide +kernel
theorem d_md_open_93 : decode m_md_open.2.1 93 = .ok (.iastore, 1) := by decide +kernel
theorem d_md_open_94 : decode m_md_open.2.1 94 = .ok (.aload_n 0, 1) := by decide +kernel
theorem d_md_open_95 : decode m_md_open.2.1 95 = .ok (.getfield 51, 3) := by decide +kernel
theorem d_md_open_98 : decode m_md_open.2.1 98 = .ok (.iload_n 1, 1) := by decide +kernel
theorem d_md_open_99 : decode m_md_open.2.1 99 = .ok (.iload_n 3, 1) := by decide +kernel
theorem d_md_open_100 : decode m_md_open.2.1 100 = .ok (.iastore, 1) := by decide +kernel
theorem d_md_open_101 : decode m_md_open.2.1 101 = .ok (.aload_n 0, 1) := by decide +kernel
theorem d_md_open_102 : decode m_md_open.2.1 102 = .ok (.getfield 54, 3) := by decide +kernel
theorem d_md_open_105 : decode m_md_open.2.1 105 = .ok (.iload_n 1, 1) := by decide +kernel
theorem d_md_open_106 : decode m_md_open.2.1 106 = .ok (.aload_n 0, 1) := by decide +kernel
theorem d_md_open_107 : decode m_md_open.2.1 107 = .ok (.getfield 152, 3) := by decide +kernel
theorem d_md_open_110 : decode m_md_open.2.1 110 = .ok (.iastore, 1) := by decide +kernel
theorem d_md_open_111 : decode m_md_open.2.1 111 = .ok (.aload_n 0, 1) := by decide +kernel
theorem d_md_open_112 : decode m_md_open.2.1 112 = .ok (.aload_n 0, 1) := by decide +kernel
theorem d_md_open_113 : decode m_md_open.2.1 113 = .ok (.getfield 152, 3) := by decide +kernel
theorem d_md_open_116 : decode m_md_open.2.1 116 = .ok (.iload_n 3, 1) := by decide +kernel
theorem d_md_open_117 : decode m_md_open.2.1 117 = .ok (.iadd, 1) := by decide +kernel
theorem d_md_open_118 : decode m_md_open.2.1 118 = .ok (.invokevirtual 155, 3) := by decide +kernel
theorem d_md_open_121 : decode m_md_open.2.1 121 = .ok (.ireturn, 1) := by decide +kernel
theorem d_md_out_0 : decode m_md_out.2.1 0 = .ok (.iload_n 1, 1) := by decide +kernel
theorem d_md_out_1 : decode m_md_out.2.1 1 = .ok (.ifCond .lt (8), 3) := by decide +kernel
theorem d_md_out_4 : decode m_md_out.2.1 4 = .ok (.iload_n 1, 1) := by decide +kernel
theorem d_md_out_5 : decode m_md_out.2.1 5 = .ok (.iload_n 2, 1) := by decide +kernel
theorem d_md_out_6 : decode m_md_out.2.1 6 = .ok (.if_icmp .lt (7), 3) := by decide +kernel
theorem d_md_out_9 : decode m_md_out.2.1 9 = .ok (.iconst 1, 1) := by decide +kernel
theorem d_md_out_10 : decode m_md_out.2.1 10 = .ok (.goto 4, 3) := by decide +kernel
theorem d_md_out_13 : decode m_md_out.2.1 13 = .ok (.iconst 0, 1) := by decide +kernel
theorem d_md_out_14 : decode m_md_out.2.1 14 = .ok (.ireturn, 1) := by decide +kernel
theorem d_md_fail_0 : decode m_md_fail.2.1 0 = .ok (.aload_n 0, 1) := by decide +kernel
theorem d_md_fail_1 : decode m_md_fail.2.1 1 = .ok (.iload_n 1, 1) := by decide +kernel
theorem d_md_fail_2 : decode m_md_fail.2.1 2 = .ok (.putfield 84, 3) := by decide +kernel
theorem d_md_fail_5 : decode m_md_fail.2.1 5 = .ok (.iconst 0, 1) := by decide +kernel
theorem d_md_fail_6 : decode m_md_fail.2.1 6 = .ok (.ireturn, 1) := by decide +kernel
theorem d_md_linked_0 : decode m_md_linked.2.1 0 = .ok (.aload_n 0, 1) := by decide +kernel
theorem d_md_linked_1 : decode m_md_linked.2.1 1 = .ok (.getfield 105, 3) := by decide +kernel
theorem d_md_linked_4 : decode m_md_linked.2.1 4 = .ok (.ifCond .lt (26), 3) := by decide +kernel
theorem d_md_linked_7 : decode m_md_linked.2.1 7 = .ok (.aload_n 0, 1) := by decide +kernel
theorem d_md_linked_8 : decode m_md_linked.2.1 8 = .ok (.aload_n 0, 1) := by decide +kernel
theorem d_md_linked_9 : decode m_md_linked.2.1 9 = .ok (.getfield 105, 3) := by decide +kernel
theorem d_md_linked_12 : decode m_md_linked.2.1 12 = .ok (.invokevirtual 108, 3) := by decide +kernel
theorem d_md_linked_15 : decode m_md_linked.2.1 15 = .ok (.ifCond .eq (15), 3) := by decide +kernel
theorem d_md_linked_18 : decode m_md_linked.2.1 18 = .ok (.aload_n 0, 1) := by decide +kernel
theorem d_md_linked_19 : decode m_md_linked.2.1 19 = .ok (.iload_n 1, 1) := by decide +kernel
theorem d_md_linked_20 : decode m_md_linked.2.1 20 = .ok (.invokevirtual 108, 3) := by decide +kernel
theorem d_md_linked_23 : decode m_md_linked.2.1 23 = .ok (.ifCond .eq (7), 3) := by decide +kernel
theorem d_md_linked_26 : decode m_md_linked.2.1 26 = .ok (.iconst 1, 1) := by decide +kernel
theorem d_md_linked_27 : decode m_md_linked.2.1 27 = .ok (.goto 4, 3) := by decide +kernel
theorem d_md_linked_30 : decode m_md_linked.2.1 30 = .ok (.iconst 0, 1) := by decide +kernel
theorem d_md_linked_31 : decode m_md_linked.2.1 31 = .ok (.ireturn, 1) := by decide +kernel
theorem d_md_fit_0 : decode m_md_fit.2.1 0 = .ok (.aload_n 0, 1) := by decide +kernel
theorem d_md_fit_1 : decode m_md_fit.2.1 1 = .ok (.getfield 31, 3) := by decide +kernel
theorem d_md_fit_4 : decode m_md_fit.2.1 4 = .ok (.iload_n 1, 1) := by decide +kernel
theorem d_md_fit_5 : decode m_md_fit.2.1 5 = .ok (.baload, 1) := by decide +kernel
theorem d_md_fit_6 : decode m_md_fit.2.1 6 = .ok (.ifCond .ne (16), 3) := by decide +kernel
theorem d_md_fit_9 : decode m_md_fit.2.1 9 = .ok (.aload_n 0, 1) := by decide +kernel
theorem d_md_fit_10 : decode m_md_fit.2.1 10 = .ok (.getfield 35, 3) := by decide +kernel
theorem d_md_fit_13 : decode m_md_fit.2.1 13 = .ok (.iload_n 1, 1) := by decide +kernel
theorem d_md_fit_14 : decode m_md_fit.2.1 14 = .ok (.baload, 1) := by decide +kernel
theorem d_md_fit_15 : decode m_md_fit.2.1 15 = .ok (.ifCond .ne (7), 3) := by decide +kernel
theorem d_md_fit_18 : decode m_md_fit.2.1 18 = .ok (.iconst 1, 1) := by decide +kernel
theorem d_md_fit_19 : decode m_md_fit.2.1 19 = .ok (.goto 4, 3) := by decide +kernel
theorem d_md_fit_22 : decode m_md_fit.2.1 22 = .ok (.iconst 0, 1) := by decide +kernel
theorem d_md_fit_23 : decode m_md_fit.2.1 23 = .ok (.ireturn, 1) := by decide +kernel
theorem d_md_quorum_0 : decode m_md_quorum.2.1 0 = .ok (.iconst 0, 1) := by decide +kernel
theorem d_md_quorum_1 : decode m_md_quorum.2.1 1 = .ok (.istore_n 1, 1) := by decide +kernel
theorem d_md_quorum_2 : decode m_md_quorum.2.1 2 = .ok (.iconst 0, 1) := by decide +kernel
theorem d_md_quorum_3 : decode m_md_quorum.2.1 3 = .ok (.istore_n 2, 1) := by decide +kernel
theorem d_md_quorum_4 : decode m_md_quorum.2.1 4 = .ok (.iload_n 2, 1) := by decide +kernel
theorem d_md_quorum_5 : decode m_md_quorum.2.1 5 = .ok (.iconst 3, 1) := by decide +kernel
theorem d_md_quorum_6 : decode m_md_quorum.2.1 6 = .ok (.if_icmp .ge (25), 3) := by decide +kernel
theorem d_md_quorum_9 : decode m_md_quorum.2.1 9 = .ok (.iload_n 1, 1) := by decide +kernel
theorem d_md_quorum_10 : decode m_md_quorum.2.1 10 = .ok (.aload_n 0, 1) := by decide +kernel
theorem d_md_quorum_11 : decode m_md_quorum.2.1 11 = .ok (.iload_n 2, 1) := by decide +kernel
theorem d_md_quorum_12 : decode m_md_quorum.2.1 12 = .ok (.invokevirtual 112, 3) := by decide +kernel
theorem d_md_quorum_15 : decode m_md_quorum.2.1 15 = .ok (.ifCond .eq (7), 3) := by decide +kernel
theorem d_md_quorum_18 : decode m_md_quorum.2.1 18 = .ok (.iconst 1, 1) := by decide +kernel
theorem d_md_quorum_19 : decode m_md_quorum.2.1 19 = .ok (.goto 4, 3) := by decide +kernel
theorem d_md_quorum_22 : decode m_md_quorum.2.1 22 = .ok (.iconst 0, 1) := by decide +kernel
theorem d_md_quorum_23 : decode m_md_quorum.2.1 23 = .ok (.iadd, 1) := by decide +kernel
theorem d_md_quorum_24 : decode m_md_quorum.2.1 24 = .ok (.istore_n 1, 1) := by decide +kernel
theorem d_md_quorum_25 : decode m_md_quorum.2.1 25 = .ok (.iinc 2 1, 3) := by decide +kernel
theorem d_md_quorum_28 : decode m_md_quorum.2.1 28 = .ok (.goto (-24), 3) := by decide +kernel
theorem d_md_quorum_31 : decode m_md_quorum.2.1 31 = .ok (.iload_n 1, 1) := by decide +kernel
theorem d_md_quorum_32 : decode m_md_quorum.2.1 32 = .ok (.iconst 1, 1) := by decide +kernel
theorem d_md_quorum_33 : decode m_md_quorum.2.1 33 = .ok (.if_icmp .le (7), 3) := by decide +kernel
theorem d_md_quorum_36 : decode m_md_quorum.2.1 36 = .ok (.iconst 1, 1) := by decide +kernel
theorem d_md_quorum_37 : decode m_md_quorum.2.1 37 = .ok (.goto 4, 3) := by decide +kernel
theorem d_md_quorum_40 : decode m_md_quorum.2.1 40 = .ok (.iconst 0, 1) := by decide +kernel
theorem d_md_quorum_41 : decode m_md_quorum.2.1 41 = .ok (.ireturn, 1) := by decide +kernel
theorem d_md_end_0 : decode m_md_end.2.1 0 = .ok (.iconst 0, 1) := by decide +kernel
theorem d_md_end_1 : decode m_md_end.2.1 1 = .ok (.istore_n 2, 1) := by decide +kernel
theorem d_md_end_2 : decode m_md_end.2.1 2 = .ok (.iload_n 2, 1) := by decide +kernel
theorem d_md_end_3 : decode m_md_end.2.1 3 = .ok (.iconst 4, 1) := by decide +kernel
theorem d_md_end_4 : decode m_md_end.2.1 4 = .ok (.if_icmp .ge (55), 3) := by decide +kernel
theorem d_md_end_7 : decode m_md_end.2.1 7 = .ok (.aload_n 0, 1) := by decide +kernel
theorem d_md_end_8 : decode m_md_end.2.1 8 = .ok (.getfield 45, 3) := by decide +kernel
theorem d_md_end_11 : decode m_md_end.2.1 11 = .ok (.iload_n 2, 1) := by decide +kernel
theorem d_md_end_12 : decode m_md_end.2.1 12 = .ok (.baload, 1) := by decide +kernel
theorem d_md_end_13 : decode m_md_end.2.1 13 = .ok (.ifCond .eq (40), 3) := by decide +kernel
theorem d_md_end_16 : decode m_md_end.2.1 16 = .ok (.aload_n 0, 1) := by decide +kernel
theorem d_md_end_17 : decode m_md_end.2.1 17 = .ok (.invokevirtual 118, 3) := by decide +kernel
theorem d_md_end_20 : decode m_md_end.2.1 20 = .ok (.ifCond .ne (6), 3) := by decide +kernel
theorem d_md_end_23 : decode m_md_end.2.1 23 = .ok (.goto 30, 3) := by decide +kernel
theorem d_md_end_26 : decode m_md_end.2.1 26 = .ok (.aload_n 0, 1) := by decide +kernel
theorem d_md_end_27 : decode m_md_end.2.1 27 = .ok (.invokevirtual 128, 3) := by decide +kernel
theorem d_md_end_30 : decode m_md_end.2.1 30 = .ok (.aload_n 0, 1) := by decide +kernel
theorem d_md_end_31 : decode m_md_end.2.1 31 = .ok (.getfield 45, 3) := by decide +kernel
theorem d_md_end_34 : decode m_md_end.2.1 34 = .ok (.iload_n 2, 1) := by decide +kernel
theorem d_md_end_35 : decode m_md_end.2.1 35 = .ok (.iconst 0, 1) := by decide +kernel
theorem d_md_end_36 : decode m_md_end.2.1 36 = .ok (.bastore, 1) := by decide +kernel
theorem d_md_end_37 : decode m_md_end.2.1 37 = .ok (.aload_n 0, 1) := by decide +kernel
theorem d_md_end_38 : decode m_md_end.2.1 38 = .ok (.iload_n 2, 1) := by decide +kernel
theorem d_md_end_39 : decode m_md_end.2.1 39 = .ok (.invokevirtual 131, 3) := by decide +kernel
theorem d_md_end_42 : decode m_md_end.2.1 42 = .ok (.ifCond .le (11), 3) := by decide +kernel
theorem d_md_end_45 : decode m_md_end.2.1 45 = .ok (.aload_n 0, 1) := by decide +kernel
theorem d_md_end_46 : decode m_md_end.2.1 46 = .ok (.iconst 4, 1) := by decide +kernel
theorem d_md_end_47 : decode m_md_end.2.1 47 = .ok (.iconst 0, 1) := by decide +kernel
theorem d_md_end_48 : decode m_md_end.2.1 48 = .ok (.iconst 0, 1) := by decide +kernel
theorem d_md_end_49 : decode m_md_end.2.1 49 = .ok (.iload_n 2, 1) := by decide +kernel
theorem d_md_end_50 : decode m_md_end.2.1 50 = .ok (.invokevirtual 134, 3) := by decide +kernel
theorem d_md_end_53 : decode m_md_end.2.1 53 = .ok (.iinc 2 1, 3) := by decide +kernel
theorem d_md_end_56 : decode m_md_end.2.1 56 = .ok (.goto (-54), 3) := by decide +kernel
theorem d_md_end_59 : decode m_md_end.2.1 59 = .ok (.iload_n 1, 1) := by decide +kernel
theorem d_md_end_60 : decode m_md_end.2.1 60 = .ok (.ireturn, 1) := by decide +kernel
theorem d_md_planned_0 : decode m_md_planned.2.1 0 = .ok (.aload_n 0, 1) := by decide +kernel
theorem d_md_planned_1 : decode m_md_planned.2.1 1 = .ok (.aload_n 0, 1) := by decide +kernel
theorem d_md_planned_2 : decode m_md_planned.2.1 2 = .ok (.getfield 105, 3) := by decide +kernel
theorem d_md_planned_5 : decode m_md_planned.2.1 5 = .ok (.aload_n 0, 1) := by decide +kernel
theorem d_md_planned_6 : decode m_md_planned.2.1 6 = .ok (.getfield 22, 3) := by decide +kernel
theorem d_md_planned_9 : decode m_md_planned.2.1 9 = .ok (.aload_n 0, 1) := by decide +kernel
theorem d_md_planned_10 : decode m_md_planned.2.1 10 = .ok (.getfield 105, 3) := by decide +kernel
theorem d_md_planned_13 : decode m_md_planned.2.1 13 = .ok (.iaload, 1) := by decide +kernel
theorem d_md_planned_14 : decode m_md_planned.2.1 14 = .ok (.invokevirtual 122, 3) := by decide +kernel
theorem d_md_planned_17 : decode m_md_planned.2.1 17 = .ok (.return_, 1) := by decide +kernel
theorem d_md_grow_0 : decode m_md_grow.2.1 0 = .ok (.aload_n 0, 1) := by decide +kernel
theorem d_md_grow_1 : decode m_md_grow.2.1 1 = .ok (.invokevirtual 95, 3) := by decide +kernel
theorem d_md_grow_4 : decode m_md_grow.2.1 4 = .ok (.iconst 0, 1) := by decide +kernel
theorem d_md_grow_5 : decode m_md_grow.2.1 5 = .ok (.istore_n 3, 1) := by decide +kernel
theorem d_md_grow_6 : decode m_md_grow.2.1 6 = .ok (.iload_n 3, 1) := by decide +kernel
theorem d_md_grow_7 : decode m_md_grow.2.1 7 = .ok (.iload_n 2, 1) := by decide +kernel
theorem d_md_grow_8 : decode m_md_grow.2.1 8 = .ok (.if_icmp .ge (20), 3) := by decide +kernel
theorem d_md_grow_11 : decode m_md_grow.2.1 11 = .ok (.aload_n 0, 1) := by decide +kernel
theorem d_md_grow_12 : decode m_md_grow.2.1 12 = .ok (.bipush 80, 2) := by decide +kernel
theorem d_md_grow_14 : decode m_md_grow.2.1 14 = .ok (.iload_n 1, 1) := by decide +kernel
theorem d_md_grow_15 : decode m_md_grow.2.1 15 = .ok (.imul, 1) := by decide +kernel
theorem d_md_grow_16 : decode m_md_grow.2.1 16 = .ok (.iload_n 3, 1) := by decide +kernel
theorem d_md_grow_17 : decode m_md_grow.2.1 17 = .ok (.iadd, 1) := by decide +kernel
theorem d_md_grow_18 : decode m_md_grow.2.1 18 = .ok (.iconst (-1), 1) := by decide +kernel
theorem d_md_grow_19 : decode m_md_grow.2.1 19 = .ok (.invokevirtual 98, 3) := by decide +kernel
theorem d_md_grow_22 : decode m_md_grow.2.1 22 = .ok (.iinc 3 1, 3) := by decide +kernel
theorem d_md_grow_25 : decode m_md_grow.2.1 25 = .ok (.goto (-19), 3) := by decide +kernel
theorem d_md_grow_28 : decode m_md_grow.2.1 28 = .ok (.return_, 1) := by decide +kernel
theorem d_md_plant_0 : decode m_md_plant.2.1 0 = .ok (.iconst 0, 1) := by decide +kernel
theorem d_md_plant_1 : decode m_md_plant.2.1 1 = .ok (.istore_n 1, 1) := by decide +kernel
theorem d_md_plant_2 : decode m_md_plant.2.1 2 = .ok (.iload_n 1, 1) := by decide +kernel
theorem d_md_plant_3 : decode m_md_plant.2.1 3 = .ok (.sipush 259, 3) := by decide +kernel
theorem d_md_plant_6 : decode m_md_plant.2.1 6 = .ok (.if_icmp .ge (24), 3) := by decide +kernel
theorem d_md_plant_9 : decode m_md_plant.2.1 9 = .ok (.aload_n 0, 1) := by decide +kernel
theorem d_md_plant_10 : decode m_md_plant.2.1 10 = .ok (.getfield 69, 3) := by decide +kernel
theorem d_md_plant_13 : decode m_md_plant.2.1 13 = .ok (.iload_n 1, 1) := by decide +kernel
theorem d_md_plant_14 : decode m_md_plant.2.1 14 = .ok (.iload_n 1, 1) := by decide +kernel
theorem d_md_plant_15 : decode m_md_plant.2.1 15 = .ok (.ifCond .ne (7), 3) := by decide +kernel
theorem d_md_plant_18 : decode m_md_plant.2.1 18 = .ok (.iconst 1, 1) := by decide +kernel
theorem d_md_plant_19 : decode m_md_plant.2.1 19 = .ok (.goto 4, 3) := by decide +kernel
theorem d_md_plant_22 : decode m_md_plant.2.1 22 = .ok (.iconst 0, 1) := by decide +kernel
theorem d_md_plant_23 : decode m_md_plant.2.1 23 = .ok (.bastore, 1) := by decide +kernel
theorem d_md_plant_24 : decode m_md_plant.2.1 24 = .ok (.iinc 1 1, 3) := by decide +kernel
theorem d_md_plant_27 : decode m_md_plant.2.1 27 = .ok (.goto (-25), 3) := by decide +kernel
theorem d_md_plant_30 : decode m_md_plant.2.1 30 = .ok (.aload_n 0, 1) := by decide +kernel
theorem d_md_plant_31 : decode m_md_plant.2.1 31 = .ok (.getfield 72, 3) := by decide +kernel
theorem d_md_plant_34 : decode m_md_plant.2.1 34 = .ok (.iconst 0, 1) := by decide +kernel
theorem d_md_plant_35 : decode m_md_plant.2.1 35 = .ok (.iconst 0, 1) := by decide +kernel
theorem d_md_plant_36 : decode m_md_plant.2.1 36 = .ok (.iastore, 1) := by decide +kernel
theorem d_md_plant_37 : decode m_md_plant.2.1 37 = .ok (.aload_n 0, 1) := by decide +kernel
theorem d_md_plant_38 : decode m_md_plant.2.1 38 = .ok (.getfield 75, 3) := by decide +kernel
theorem d_md_plant_41 : decode m_md_plant.2.1 41 = .ok (.iconst 0, 1) := by decide +kernel
theorem d_md_plant_42 : decode m_md_plant.2.1 42 = .ok (.iconst 0, 1) := by decide +kernel
theorem d_md_plant_43 : decode m_md_plant.2.1 43 = .ok (.iastore, 1) := by decide +kernel
theorem d_md_plant_44 : decode m_md_plant.2.1 44 = .ok (.aload_n 0, 1) := by decide +kernel
theorem d_md_plant_45 : decode m_md_plant.2.1 45 = .ok (.getfield 78, 3) := by decide +kernel
theorem d_md_plant_48 : decode m_md_plant.2.1 48 = .ok (.iconst 0, 1) := by decide +kernel
theorem d_md_plant_49 : decode m_md_plant.2.1 49 = .ok (.iconst 0, 1) := by decide +kernel
theorem d_md_plant_50 : decode m_md_plant.2.1 50 = .ok (.iastore, 1) := by decide +kernel
theorem d_md_plant_51 : decode m_md_plant.2.1 51 = .ok (.aload_n 0, 1) := by decide +kernel
theorem d_md_plant_52 : decode m_md_plant.2.1 52 = .ok (.getfield 81, 3) := by decide +kernel
theorem d_md_plant_55 : decode m_md_plant.2.1 55 = .ok (.iconst 0, 1) := by decide +kernel
theorem d_md_plant_56 : decode m_md_plant.2.1 56 = .ok (.iconst (-1), 1) := by decide +kernel
theorem d_md_plant_57 : decode m_md_plant.2.1 57 = .ok (.iastore, 1) := by decide +kernel
theorem d_md_plant_58 : decode m_md_plant.2.1 58 = .ok (.return_, 1) := by decide +kernel
theorem d_md_done_0 : decode m_md_done.2.1 0 = .ok (.aload_n 0, 1) := by decide +kernel
theorem d_md_done_1 : decode m_md_done.2.1 1 = .ok (.getfield 13, 3) := by decide +kernel
theorem d_md_done_4 : decode m_md_done.2.1 4 = .ok (.iload_n 1, 1) := by decide +kernel
theorem d_md_done_5 : decode m_md_done.2.1 5 = .ok (.iaload, 1) := by decide +kernel
theorem d_md_done_6 : decode m_md_done.2.1 6 = .ok (.istore_n 3, 1) := by decide +kernel
theorem d_md_done_7 : decode m_md_done.2.1 7 = .ok (.aload_n 0, 1) := by decide +kernel
theorem d_md_done_8 : decode m_md_done.2.1 8 = .ok (.getfield 7, 3) := by decide +kernel
theorem d_md_done_11 : decode m_md_done.2.1 11 = .ok (.iload_n 1, 1) := by decide +kernel
theorem d_md_done_12 : decode m_md_done.2.1 12 = .ok (.iaload, 1) := by decide +kernel
theorem d_md_done_13 : decode m_md_done.2.1 13 = .ok (.iconst 2, 1) := by decide +kernel
theorem d_md_done_14 : decode m_md_done.2.1 14 = .ok (.if_icmp .ge (86), 3) := by decide +kernel
theorem d_md_done_17 : decode m_md_done.2.1 17 = .ok (.aload_n 0, 1) := by decide +kernel
theorem d_md_done_18 : decode m_md_done.2.1 18 = .ok (.getfield 69, 3) := by decide +kernel
theorem d_md_done_21 : decode m_md_done.2.1 21 = .ok (.iload_n 3, 1) := by decide +kernel
theorem d_md_done_22 : decode m_md_done.2.1 22 = .ok (.iconst 1, 1) := by decide +kernel
theorem d_md_done_23 : decode m_md_done.2.1 23 = .ok (.bastore, 1) := by decide +kernel
theorem d_md_done_24 : decode m_md_done.2.1 24 = .ok (.aload_n 0, 1) := by decide +kernel
theorem d_md_done_25 : decode m_md_done.2.1 25 = .ok (.getfield 72, 3) := by decide +kernel
theorem d_md_done_28 : decode m_md_done.2.1 28 = .ok (.iload_n 3, 1) := by decide +kernel
theorem d_md_done_29 : decode m_md_done.2.1 29 = .ok (.aload_n 0, 1) := by decide +kernel
theorem d_md_done_30 : decode m_md_done.2.1 30 = .ok (.getfield 16, 3) := by decide +kernel
theorem d_md_done_33 : decode m_md_done.2.1 33 = .ok (.iload_n 1, 1) := by decide +kernel
theorem d_md_done_34 : decode m_md_done.2.1 34 = .ok (.iaload, 1) := by decide +kernel
theorem d_md_done_35 : decode m_md_done.2.1 35 = .ok (.iastore, 1) := by decide +kernel
theorem d_md_done_36 : decode m_md_done.2.1 36 = .ok (.aload_n 0, 1) := by decide +kernel
theorem d_md_done_37 : decode m_md_done.2.1 37 = .ok (.getfield 75, 3) := by decide +kernel
theorem d_md_done_40 : decode m_md_done.2.1 40 = .ok (.iload_n 3, 1) := by decide +kernel
theorem d_md_done_41 : decode m_md_done.2.1 41 = .ok (.iconst 0, 1) := by decide +kernel
theorem d_md_done_42 : decode m_md_done.2.1 42 = .ok (.iastore, 1) := by decide +kernel
theorem d_md_done_43 : decode m_md_done.2.1 43 = .ok (.aload_n 0, 1) := by decide +kernel
theorem d_md_done_44 : decode m_md_done.2.1 44 = .ok (.getfield 78, 3) := by decide +kernel
theorem d_md_done_47 : decode m_md_done.2.1 47 = .ok (.iload_n 3, 1) := by decide +kernel
theorem d_md_done_48 : decode m_md_done.2.1 48 = .ok (.iconst 0, 1) := by decide +kernel
theorem d_md_done_49 : decode m_md_done.2.1 49 = .ok (.iastore, 1) := by decide +kernel
theorem d_md_done_50 : decode m_md_done.2.1 50 = .ok (.aload_n 0, 1) := by decide +kernel
theorem d_md_done_51 : decode m_md_done.2.1 51 = .ok (.getfield 81, 3) := by decide +kernel
theorem d_md_done_54 : decode m_md_done.2.1 54 = .ok (.iload_n 3, 1) := by decide +kernel
theorem d_md_done_55 : decode m_md_done.2.1 55 = .ok (.aload_n 0, 1) := by decide +kernel
theorem d_md_done_56 : decode m_md_done.2.1 56 = .ok (.getfield 19, 3) := by decide +kernel
theorem d_md_done_59 : decode m_md_done.2.1 59 = .ok (.iload_n 1, 1) := by decide +kernel
theorem d_md_done_60 : decode m_md_done.2.1 60 = .ok (.iaload, 1) := by decide +kernel
theorem d_md_done_61 : decode m_md_done.2.1 61 = .ok (.iastore, 1) := by decide +kernel
theorem d_md_done_62 : decode m_md_done.2.1 62 = .ok (.aload_n 0, 1) := by decide +kernel
theorem d_md_done_63 : decode m_md_done.2.1 63 = .ok (.getfield 7, 3) := by decide +kernel
theorem d_md_done_66 : decode m_md_done.2.1 66 = .ok (.iload_n 1, 1) := by decide +kernel
theorem d_md_done_67 : decode m_md_done.2.1 67 = .ok (.iaload, 1) := by decide +kernel
theorem d_md_done_68 : decode m_md_done.2.1 68 = .ok (.iconst 1, 1) := by decide +kernel
theorem d_md_done_69 : decode m_md_done.2.1 69 = .ok (.if_icmp .ne (21), 3) := by decide +kernel
theorem d_md_done_72 : decode m_md_done.2.1 72 = .ok (.aload_n 0, 1) := by decide +kernel
theorem d_md_done_73 : decode m_md_done.2.1 73 = .ok (.getfield 78, 3) := by decide +kernel
theorem d_md_done_76 : decode m_md_done.2.1 76 = .ok (.aload_n 0, 1) := by decide +kernel
theorem d_md_done_77 : decode m_md_done.2.1 77 = .ok (.iload_n 3, 1) := by decide +kernel
theorem d_md_done_78 : decode m_md_done.2.1 78 = .ok (.invokevirtual 87, 3) := by decide +kernel
theorem d_md_done_81 : decode m_md_done.2.1 81 = .ok (.iload_n 3, 1) := by decide +kernel
theorem d_md_done_82 : decode m_md_done.2.1 82 = .ok (.iconst 1, 1) := by decide +kernel
theorem d_md_done_83 : decode m_md_done.2.1 83 = .ok (.isub, 1) := by decide +kernel
theorem d_md_done_84 : decode m_md_done.2.1 84 = .ok (.bipush 6, 2) := by decide +kernel
theorem d_md_done_86 : decode m_md_done.2.1 86 = .ok (.irem, 1) := by decide +kernel
theorem d_md_done_87 : decode m_md_done.2.1 87 = .ok (.iconst 1, 1) := by decide +kernel
theorem d_md_done_88 : decode m_md_done.2.1 88 = .ok (.iadd, 1) := by decide +kernel
theorem d_md_done_89 : decode m_md_done.2.1 89 = .ok (.iastore, 1) := by decide +kernel
theorem d_md_done_90 : decode m_md_done.2.1 90 = .ok (.aload_n 0, 1) := by decide +kernel
theorem d_md_done_91 : decode m_md_done.2.1 91 = .ok (.iload_n 2, 1) := by decide +kernel
theorem d_md_done_92 : decode m_md_done.2.1 92 = .ok (.iload_n 3, 1) := by decide +kernel
theorem d_md_done_93 : decode m_md_done.2.1 93 = .ok (.iconst 1, 1) := by decide +kernel
theorem d_md_done_94 : decode m_md_done.2.1 94 = .ok (.invokevirtual 91, 3) := by decide +kernel
theorem d_md_done_97 : decode m_md_done.2.1 97 = .ok (.goto 131, 3) := by decide +kernel
theorem d_md_done_100 : decode m_md_done.2.1 100 = .ok (.aload_n 0, 1) := by decide +kernel
theorem d_md_done_101 : decode m_md_done.2.1 101 = .ok (.getfield 7, 3) := by decide +kernel
theorem d_md_done_104 : decode m_md_done.2.1 104 = .ok (.iload_n 1, 1) := by decide +kernel
theorem d_md_done_105 : decode m_md_done.2.1 105 = .ok (.iaload, 1) := by decide +kernel
theorem d_md_done_106 : decode m_md_done.2.1 106 = .ok (.iconst 2, 1) := by decide +kernel
theorem d_md_done_107 : decode m_md_done.2.1 107 = .ok (.if_icmp .ne (35), 3) := by decide +kernel
theorem d_md_done_110 : decode m_md_done.2.1 110 = .ok (.aload_n 0, 1) := by decide +kernel
theorem d_md_done_111 : decode m_md_done.2.1 111 = .ok (.getfield 72, 3) := by decide +kernel
theorem d_md_done_114 : decode m_md_done.2.1 114 = .ok (.iload_n 3, 1) := by decide +kernel
theorem d_md_done_115 : decode m_md_done.2.1 115 = .ok (.aload_n 0, 1) := by decide +kernel
theorem d_md_done_116 : decode m_md_done.2.1 116 = .ok (.getfield 16, 3) := by decide +kernel
theorem d_md_done_119 : decode m_md_done.2.1 119 = .ok (.iload_n 1, 1) := by decide +kernel
theorem d_md_done_120 : decode m_md_done.2.1 120 = .ok (.iaload, 1) := by decide +kernel
theorem d_md_done_121 : decode m_md_done.2.1 121 = .ok (.iastore, 1) := by decide +kernel
theorem d_md_done_122 : decode m_md_done.2.1 122 = .ok (.aload_n 0, 1) := by decide +kernel
theorem d_md_done_123 : decode m_md_done.2.1 123 = .ok (.getfield 75, 3) := by decide +kernel
theorem d_md_done_126 : decode m_md_done.2.1 126 = .ok (.iload_n 3, 1) := by decide +kernel
theorem d_md_done_127 : decode m_md_done.2.1 127 = .ok (.dup2, 1) := by decide +kernel
theorem d_md_done_128 : decode m_md_done.2.1 128 = .ok (.iaload, 1) := by decide +kernel
theorem d_md_done_129 : decode m_md_done.2.1 129 = .ok (.iconst 1, 1) := by decide +kernel
theorem d_md_done_130 : decode m_md_done.2.1 130 = .ok (.iadd, 1) := by decide +kernel
theorem d_md_done_131 : decode m_md_done.2.1 131 = .ok (.iastore, 1) := by decide +kernel
theorem d_md_done_132 : decode m_md_done.2.1 132 = .ok (.aload_n 0, 1) := by decide +kernel
theorem d_md_done_133 : decode m_md_done.2.1 133 = .ok (.iload_n 2, 1) := by decide +kernel
theorem d_md_done_134 : decode m_md_done.2.1 134 = .ok (.iload_n 3, 1) := by decide +kernel
theorem d_md_done_135 : decode m_md_done.2.1 135 = .ok (.iconst 2, 1) := by decide +kernel
theorem d_md_done_136 : decode m_md_done.2.1 136 = .ok (.invokevirtual 91, 3) := by decide +kernel
theorem d_md_done_139 : decode m_md_done.2.1 139 = .ok (.goto 89, 3) := by decide +kernel
theorem d_md_done_142 : decode m_md_done.2.1 142 = .ok (.aload_n 0, 1) := by decide +kernel
theorem d_md_done_143 : decode m_md_done.2.1 143 = .ok (.getfield 7, 3) := by decide +kernel
theorem d_md_done_146 : decode m_md_done.2.1 146 = .ok (.iload_n 1, 1) := by decide +kernel
theorem d_md_done_147 : decode m_md_done.2.1 147 = .ok (.iaload, 1) := by decide +kernel
theorem d_md_done_148 : decode m_md_done.2.1 148 = .ok (.iconst 3, 1) := by decide +kernel
theorem d_md_done_149 : decode m_md_done.2.1 149 = .ok (.if_icmp .ne (20), 3) := by decide +kernel
theorem d_md_done_152 : decode m_md_done.2.1 152 = .ok (.aload_n 0, 1) := by decide +kernel
theorem d_md_done_153 : decode m_md_done.2.1 153 = .ok (.getfield 69, 3) := by decide +kernel
theorem d_md_done_156 : decode m_md_done.2.1 156 = .ok (.iload_n 3, 1) := by decide +kernel
theorem d_md_done_157 : decode m_md_done.2.1 157 = .ok (.iconst 0, 1) := by decide +kernel
theorem d_md_done_158 : decode m_md_done.2.1 158 = .ok (.bastore, 1) := by decide +kernel
theorem d_md_done_159 : decode m_md_done.2.1 159 = .ok (.aload_n 0, 1) := by decide +kernel
theorem d_md_done_160 : decode m_md_done.2.1 160 = .ok (.iload_n 2, 1) := by decide +kernel
theorem d_md_done_161 : decode m_md_done.2.1 161 = .ok (.iload_n 3, 1) := by decide +kernel
theorem d_md_done_162 : decode m_md_done.2.1 162 = .ok (.iconst 3, 1) := by decide +kernel
theorem d_md_done_163 : decode m_md_done.2.1 163 = .ok (.invokevirtual 91, 3) := by decide +kernel
theorem d_md_done_166 : decode m_md_done.2.1 166 = .ok (.goto 62, 3) := by decide +kernel
theorem d_md_done_169 : decode m_md_done.2.1 169 = .ok (.iconst 1, 1) := by decide +kernel
theorem d_md_done_170 : decode m_md_done.2.1 170 = .ok (.istore 4, 2) := by decide +kernel
theorem d_md_done_172 : decode m_md_done.2.1 172 = .ok (.iload 4, 2) := by decide +kernel
theorem d_md_done_174 : decode m_md_done.2.1 174 = .ok (.sipush 259, 3) := by decide +kernel
theorem d_md_done_177 : decode m_md_done.2.1 177 = .ok (.if_icmp .ge (51), 3) := by decide +kernel
theorem d_md_done_180 : decode m_md_done.2.1 180 = .ok (.aload_n 0, 1) := by decide +kernel
theorem d_md_done_181 : decode m_md_done.2.1 181 = .ok (.getfield 69, 3) := by decide +kernel
theorem d_md_done_184 : decode m_md_done.2.1 184 = .ok (.iload 4, 2) := by decide +kernel
theorem d_md_done_186 : decode m_md_done.2.1 186 = .ok (.baload, 1) := by decide +kernel
theorem d_md_done_187 : decode m_md_done.2.1 187 = .ok (.ifCond .eq (35), 3) := by decide +kernel
theorem d_md_done_190 : decode m_md_done.2.1 190 = .ok (.aload_n 0, 1) := by decide +kernel
theorem d_md_done_191 : decode m_md_done.2.1 191 = .ok (.getfield 81, 3) := by decide +kernel
theorem d_md_done_194 : decode m_md_done.2.1 194 = .ok (.iload 4, 2) := by decide +kernel
theorem d_md_done_196 : decode m_md_done.2.1 196 = .ok (.iaload, 1) := by decide +kernel
theorem d_md_done_197 : decode m_md_done.2.1 197 = .ok (.aload_n 0, 1) := by decide +kernel
theorem d_md_done_198 : decode m_md_done.2.1 198 = .ok (.getfield 19, 3) := by decide +kernel
theorem d_md_done_201 : decode m_md_done.2.1 201 = .ok (.iload_n 1, 1) := by decide +kernel
theorem d_md_done_202 : decode m_md_done.2.1 202 = .ok (.iaload, 1) := by decide +kernel
theorem d_md_done_203 : decode m_md_done.2.1 203 = .ok (.if_icmp .ne (19), 3) := by decide +kernel
theorem d_md_done_206 : decode m_md_done.2.1 206 = .ok (.aload_n 0, 1) := by decide +kernel
theorem d_md_done_207 : decode m_md_done.2.1 207 = .ok (.getfield 69, 3) := by decide +kernel
theorem d_md_done_210 : decode m_md_done.2.1 210 = .ok (.iload 4, 2) := by decide +kernel
theorem d_md_done_212 : decode m_md_done.2.1 212 = .ok (.iconst 0, 1) := by decide +kernel
theorem d_md_done_213 : decode m_md_done.2.1 213 = .ok (.bastore, 1) := by decide +kernel
theorem d_md_done_214 : decode m_md_done.2.1 214 = .ok (.aload_n 0, 1) := by decide +kernel
theorem d_md_done_215 : decode m_md_done.2.1 215 = .ok (.iload_n 2, 1) := by decide +kernel
theorem d_md_done_216 : decode m_md_done.2.1 216 = .ok (.iload 4, 2) := by decide +kernel
theorem d_md_done_218 : decode m_md_done.2.1 218 = .ok (.iconst 3, 1) := by decide +kernel
theorem d_md_done_219 : decode m_md_done.2.1 219 = .ok (.invokevirtual 91, 3) := by decide +kernel
theorem d_md_done_222 : decode m_md_done.2.1 222 = .ok (.iinc 4 1, 3) := by decide +kernel
theorem d_md_done_225 : decode m_md_done.2.1 225 = .ok (.goto (-53), 3) := by decide +kernel
theorem d_md_done_228 : decode m_md_done.2.1 228 = .ok (.return_, 1) := by decide +kernel
theorem d_md_parent_0 : decode m_md_parent.2.1 0 = .ok (.iload_n 1, 1) := by decide +kernel
theorem d_md_parent_1 : decode m_md_parent.2.1 1 = .ok (.iconst 1, 1) := by decide +kernel
theorem d_md_parent_2 : decode m_md_parent.2.1 2 = .ok (.isub, 1) := by decide +kernel
theorem d_md_parent_3 : decode m_md_parent.2.1 3 = .ok (.bipush 6, 2) := by decide +kernel
theorem d_md_parent_5 : decode m_md_parent.2.1 5 = .ok (.idiv, 1) := by decide +kernel
theorem d_md_parent_6 : decode m_md_parent.2.1 6 = .ok (.ireturn, 1) := by decide +kernel
theorem d_md_tell_0 : decode m_md_tell.2.1 0 = .ok (.iconst 0, 1) := by decide +kernel
theorem d_md_tell_1 : decode m_md_tell.2.1 1 = .ok (.istore 4, 2) := by decide +kernel
theorem d_md_tell_3 : decode m_md_tell.2.1 3 = .ok (.iload 4, 2) := by decide +kernel
theorem d_md_tell_5 : decode m_md_tell.2.1 5 = .ok (.iconst 4, 1) := by decide +kernel
theorem d_md_tell_6 : decode m_md_tell.2.1 6 = .ok (.if_icmp .ge (174), 3) := by decide +kernel
theorem d_md_tell_9 : decode m_md_tell.2.1 9 = .ok (.aload_n 0, 1) := by decide +kernel
theorem d_md_tell_10 : decode m_md_tell.2.1 10 = .ok (.getfield 42, 3) := by decide +kernel
theorem d_md_tell_13 : decode m_md_tell.2.1 13 = .ok (.iload 4, 2) := by decide +kernel
theorem d_md_tell_15 : decode m_md_tell.2.1 15 = .ok (.baload, 1) := by decide +kernel
theorem d_md_tell_16 : decode m_md_tell.2.1 16 = .ok (.ifCond .eq (158), 3) := by decide +kernel
theorem d_md_tell_19 : decode m_md_tell.2.1 19 = .ok (.aload_n 0, 1) := by decide +kernel
theorem d_md_tell_20 : decode m_md_tell.2.1 20 = .ok (.getfield 48, 3) := by decide +kernel
theorem d_md_tell_23 : decode m_md_tell.2.1 23 = .ok (.iload 4, 2) := by decide +kernel
theorem d_md_tell_25 : decode m_md_tell.2.1 25 = .ok (.iaload, 1) := by decide +kernel
theorem d_md_tell_26 : decode m_md_tell.2.1 26 = .ok (.iload_n 1, 1) := by decide +kernel
theorem d_md_tell_27 : decode m_md_tell.2.1 27 = .ok (.if_icmp .eq (6), 3) := by decide +kernel
theorem d_md_tell_30 : decode m_md_tell.2.1 30 = .ok (.goto 144, 3) := by decide +kernel
theorem d_md_tell_33 : decode m_md_tell.2.1 33 = .ok (.sipush 259, 3) := by decide +kernel
theorem d_md_tell_36 : decode m_md_tell.2.1 36 = .ok (.iload 4, 2) := by decide +kernel
theorem d_md_tell_38 : decode m_md_tell.2.1 38 = .ok (.imul, 1) := by decide +kernel
theorem d_md_tell_39 : decode m_md_tell.2.1 39 = .ok (.iload_n 2, 1) := by decide +kernel
theorem d_md_tell_40 : decode m_md_tell.2.1 40 = .ok (.iadd, 1) := by decide +kernel
theorem d_md_tell_41 : decode m_md_tell.2.1 41 = .ok (.istore 5, 2) := by decide +kernel
theorem d_md_tell_43 : decode m_md_tell.2.1 43 = .ok (.aload_n 0, 1) := by decide +kernel
theorem d_md_tell_44 : decode m_md_tell.2.1 44 = .ok (.getfield 57, 3) := by decide +kernel
theorem d_md_tell_47 : decode m_md_tell.2.1 47 = .ok (.iload 5, 2) := by decide +kernel
theorem d_md_tell_49 : decode m_md_tell.2.1 49 = .ok (.baload, 1) := by decide +kernel
theorem d_md_tell_50 : decode m_md_tell.2.1 50 = .ok (.istore 6, 2) := by decide +kernel
theorem d_md_tell_52 : decode m_md_tell.2.1 52 = .ok (.iload 6, 2) := by decide +kernel
theorem d_md_tell_54 : decode m_md_tell.2.1 54 = .ok (.ifCond .eq (16), 3) := by decide +kernel
theorem d_md_tell_57 : decode m_md_tell.2.1 57 = .ok (.aload_n 0, 1) := by decide +kernel
theorem d_md_tell_58 : decode m_md_tell.2.1 58 = .ok (.iload 4, 2) := by decide +kernel
theorem d_md_tell_60 : decode m_md_tell.2.1 60 = .ok (.sipush 300, 3) := by decide +kernel
theorem d_md_tell_63 : decode m_md_tell.2.1 63 = .ok (.iload_n 3, 1) := by decide +kernel
theorem d_md_tell_64 : decode m_md_tell.2.1 64 = .ok (.imul, 1) := by decide +kernel
theorem d_md_tell_65 : decode m_md_tell.2.1 65 = .ok (.iload_n 2, 1) := by decide +kernel
theorem d_md_tell_66 : decode m_md_tell.2.1 66 = .ok (.iadd, 1) := by decide +kernel
theorem d_md_tell_67 : decode m_md_tell.2.1 67 = .ok (.invokevirtual 102, 3) := by decide +kernel
theorem d_md_tell_70 : decode m_md_tell.2.1 70 = .ok (.iload_n 3, 1) := by decide +kernel
theorem d_md_tell_71 : decode m_md_tell.2.1 71 = .ok (.iconst 3, 1) := by decide +kernel
theorem d_md_tell_72 : decode m_md_tell.2.1 72 = .ok (.if_icmp .ne (29), 3) := by decide +kernel
theorem d_md_tell_75 : decode m_md_tell.2.1 75 = .ok (.iload 6, 2) := by decide +kernel
theorem d_md_tell_77 : decode m_md_tell.2.1 77 = .ok (.ifCond .ne (24), 3) := by decide +kernel
theorem d_md_tell_80 : decode m_md_tell.2.1 80 = .ok (.aload_n 0, 1) := by decide +kernel
theorem d_md_tell_81 : decode m_md_tell.2.1 81 = .ok (.getfield 60, 3) := by decide +kernel
theorem d_md_tell_84 : decode m_md_tell.2.1 84 = .ok (.iload 5, 2) := by decide +kernel
theorem d_md_tell_86 : decode m_md_tell.2.1 86 = .ok (.baload, 1) := by decide +kernel
theorem d_md_tell_87 : decode m_md_tell.2.1 87 = .ok (.ifCond .eq (14), 3) := by decide +kernel
theorem d_md_tell_90 : decode m_md_tell.2.1 90 = .ok (.aload_n 0, 1) := by decide +kernel
theorem d_md_tell_91 : decode m_md_tell.2.1 91 = .ok (.iload 4, 2) := by decide +kernel
theorem d_md_tell_93 : decode m_md_tell.2.1 93 = .ok (.sipush 900, 3) := by decide +kernel
theorem d_md_tell_96 : decode m_md_tell.2.1 96 = .ok (.iload_n 2, 1) := by decide +kernel
theorem d_md_tell_97 : decode m_md_tell.2.1 97 = .ok (.iadd, 1) := by decide +kernel
theorem d_md_tell_98 : decode m_md_tell.2.1 98 = .ok (.invokevirtual 102, 3) := by decide +kernel
theorem d_md_tell_101 : decode m_md_tell.2.1 101 = .ok (.iload_n 3, 1) := by decide +kernel
theorem d_md_tell_102 : decode m_md_tell.2.1 102 = .ok (.iconst 3, 1) := by decide +kernel
theorem d_md_tell_103 : decode m_md_tell.2.1 103 = .ok (.if_icmp .ne (11), 3) := by decide +kernel
theorem d_md_tell_106 : decode m_md_tell.2.1 106 = .ok (.aload_n 0, 1) := by decide +kernel
theorem d_md_tell_107 : decode m_md_tell.2.1 107 = .ok (.getfield 60, 3) := by decide +kernel
theorem d_md_tell_110 : decode m_md_tell.2.1 110 = .ok (.iload 5, 2) := by decide +kernel
theorem d_md_tell_112 : decode m_md_tell.2.1 112 = .ok (.iconst 0, 1) := by decide +kernel
theorem d_md_tell_113 : decode m_md_tell.2.1 113 = .ok (.bastore, 1) := by decide +kernel
theorem d_md_tell_114 : decode m_md_tell.2.1 114 = .ok (.aload_n 0, 1) := by decide +kernel
theorem d_md_tell_115 : decode m_md_tell.2.1 115 = .ok (.getfield 57, 3) := by decide +kernel
theorem d_md_tell_118 : decode m_md_tell.2.1 118 = .ok (.iload 5, 2) := by decide +kernel
theorem d_md_tell_120 : decode m_md_tell.2.1 120 = .ok (.iconst 0, 1) := by decide +kernel
theorem d_md_tell_121 : decode m_md_tell.2.1 121 = .ok (.bastore, 1) := by decide +kernel
theorem d_md_tell_122 : decode m_md_tell.2.1 122 = .ok (.sipush 259, 3) := by decide +kernel
theorem d_md_tell_125 : decode m_md_tell.2.1 125 = .ok (.iload 4, 2) := by decide +kernel
theorem d_md_tell_127 : decode m_md_tell.2.1 127 = .ok (.imul, 1) := by decide +kernel
theorem d_md_tell_128 : decode m_md_tell.2.1 128 = .ok (.aload_n 0, 1) := by decide +kernel
theorem d_md_tell_129 : decode m_md_tell.2.1 129 = .ok (.iload_n 2, 1) := by decide +kernel
theorem d_md_tell_130 : decode m_md_tell.2.1 130 = .ok (.invokevirtual 87, 3) := by decide +kernel
theorem d_md_tell_133 : decode m_md_tell.2.1 133 = .ok (.iadd, 1) := by decide +kernel
theorem d_md_tell_134 : decode m_md_tell.2.1 134 = .ok (.istore 7, 2) := by decide +kernel
theorem d_md_tell_136 : decode m_md_tell.2.1 136 = .ok (.iload_n 3, 1) := by decide +kernel
theorem d_md_tell_137 : decode m_md_tell.2.1 137 = .ok (.iconst 2, 1) := by decide +kernel
theorem d_md_tell_138 : decode m_md_tell.2.1 138 = .ok (.if_icmp .eq (36), 3) := by decide +kernel
theorem d_md_tell_141 : decode m_md_tell.2.1 141 = .ok (.aload_n 0, 1) := by decide +kernel
theorem d_md_tell_142 : decode m_md_tell.2.1 142 = .ok (.getfield 60, 3) := by decide +kernel
theorem d_md_tell_145 : decode m_md_tell.2.1 145 = .ok (.iload 7, 2) := by decide +kernel
theorem d_md_tell_147 : decode m_md_tell.2.1 147 = .ok (.baload, 1) := by decide +kernel
theorem d_md_tell_148 : decode m_md_tell.2.1 148 = .ok (.ifCond .eq (26), 3) := by decide +kernel
theorem d_md_tell_151 : decode m_md_tell.2.1 151 = .ok (.aload_n 0, 1) := by decide +kernel
theorem d_md_tell_152 : decode m_md_tell.2.1 152 = .ok (.iload 4, 2) := by decide +kernel
theorem d_md_tell_154 : decode m_md_tell.2.1 154 = .ok (.sipush 1200, 3) := by decide +kernel
theorem d_md_tell_157 : decode m_md_tell.2.1 157 = .ok (.aload_n 0, 1) := by decide +kernel
theorem d_md_tell_158 : decode m_md_tell.2.1 158 = .ok (.iload_n 2, 1) := by decide +kernel
theorem d_md_tell_159 : decode m_md_tell.2.1 159 = .ok (.invokevirtual 87, 3) := by decide +kernel
theorem d_md_tell_162 : decode m_md_tell.2.1 162 = .ok (.iadd, 1) := by decide +kernel
theorem d_md_tell_163 : decode m_md_tell.2.1 163 = .ok (.invokevirtual 102, 3) := by decide +kernel
theorem d_md_tell_166 : decode m_md_tell.2.1 166 = .ok (.aload_n 0, 1) := by decide +kernel
theorem d_md_tell_167 : decode m_md_tell.2.1 167 = .ok (.getfield 60, 3) := by decide +kernel
theorem d_md_tell_170 : decode m_md_tell.2.1 170 = .ok (.iload 7, 2) := by decide +kernel
theorem d_md_tell_172 : decode m_md_tell.2.1 172 = .ok (.iconst 0, 1) := by decide +kernel
theorem d_md_tell_173 : decode m_md_tell.2.1 173 = .ok (.bastore, 1) := by decide +kernel
theorem d_md_tell_174 : decode m_md_tell.2.1 174 = .ok (.iinc 4 1, 3) := by decide +kernel
theorem d_md_tell_177 : decode m_md_tell.2.1 177 = .ok (.goto (-174), 3) := by decide +kernel
theorem d_md_tell_180 : decode m_md_tell.2.1 180 = .ok (.return_, 1) := by decide +kernel
theorem d_md_put_0 : decode m_md_put.2.1 0 = .ok (.aload_n 0, 1) := by decide +kernel
theorem d_md_put_1 : decode m_md_put.2.1 1 = .ok (.getfield 66, 3) := by decide +kernel
theorem d_md_put_4 : decode m_md_put.2.1 4 = .ok (.iload_n 1, 1) := by decide +kernel
theorem d_md_put_5 : decode m_md_put.2.1 5 = .ok (.iaload, 1) := by decide +kernel
theorem d_md_put_6 : decode m_md_put.2.1 6 = .ok (.bipush 8, 2) := by decide +kernel
theorem d_md_put_8 : decode m_md_put.2.1 8 = .ok (.if_icmp .ne (4), 3) := by decide +kernel
theorem d_md_put_11 : decode m_md_put.2.1 11 = .ok (.return_, 1) := by decide +kernel
theorem d_md_put_12 : decode m_md_put.2.1 12 = .ok (.aload_n 0, 1) := by decide +kernel
theorem d_md_put_13 : decode m_md_put.2.1 13 = .ok (.getfield 63, 3) := by decide +kernel
theorem d_md_put_16 : decode m_md_put.2.1 16 = .ok (.bipush 8, 2) := by decide +kernel
theorem d_md_put_18 : decode m_md_put.2.1 18 = .ok (.iload_n 1, 1) := by decide +kernel
theorem d_md_put_19 : decode m_md_put.2.1 19 = .ok (.imul, 1) := by decide +kernel
theorem d_md_put_20 : decode m_md_put.2.1 20 = .ok (.aload_n 0, 1) := by decide +kernel
theorem d_md_put_21 : decode m_md_put.2.1 21 = .ok (.getfield 66, 3) := by decide +kernel
theorem d_md_put_24 : decode m_md_put.2.1 24 = .ok (.iload_n 1, 1) := by decide +kernel
theorem d_md_put_25 : decode m_md_put.2.1 25 = .ok (.iaload, 1) := by decide +kernel
theorem d_md_put_26 : decode m_md_put.2.1 26 = .ok (.iadd, 1) := by decide +kernel
theorem d_md_put_27 : decode m_md_put.2.1 27 = .ok (.iload_n 2, 1) := by decide +kernel
theorem d_md_put_28 : decode m_md_put.2.1 28 = .ok (.iastore, 1) := by decide +kernel
theorem d_md_put_29 : decode m_md_put.2.1 29 = .ok (.aload_n 0, 1) := by decide +kernel
theorem d_md_put_30 : decode m_md_put.2.1 30 = .ok (.getfield 66, 3) := by decide +kernel
theorem d_md_put_33 : decode m_md_put.2.1 33 = .ok (.iload_n 1, 1) := by decide +kernel
theorem d_md_put_34 : decode m_md_put.2.1 34 = .ok (.dup2, 1) := by decide +kernel
theorem d_md_put_35 : decode m_md_put.2.1 35 = .ok (.iaload, 1) := by decide +kernel
theorem d_md_put_36 : decode m_md_put.2.1 36 = .ok (.iconst 1, 1) := by decide +kernel
theorem d_md_put_37 : decode m_md_put.2.1 37 = .ok (.iadd, 1) := by decide +kernel
theorem d_md_put_38 : decode m_md_put.2.1 38 = .ok (.iastore, 1) := by decide +kernel
theorem d_md_put_39 : decode m_md_put.2.1 39 = .ok (.return_, 1) := by decide +kernel
theorem d_md_owned_0 : decode m_md_owned.2.1 0 = .ok (.iconst 0, 1) := by decide +kernel
theorem d_md_owned_1 : decode m_md_owned.2.1 1 = .ok (.istore_n 2, 1) := by decide +kernel
theorem d_md_owned_2 : decode m_md_owned.2.1 2 = .ok (.iconst 1, 1) := by decide +kernel
theorem d_md_owned_3 : decode m_md_owned.2.1 3 = .ok (.istore_n 3, 1) := by decide +kernel
theorem d_md_owned_4 : decode m_md_owned.2.1 4 = .ok (.iload_n 3, 1) := by decide +kernel
theorem d_md_owned_5 : decode m_md_owned.2.1 5 = .ok (.sipush 259, 3) := by decide +kernel
theorem d_md_owned_8 : decode m_md_owned.2.1 8 = .ok (.if_icmp .ge (36), 3) := by decide +kernel
theorem d_md_owned_11 : decode m_md_owned.2.1 11 = .ok (.iload_n 2, 1) := by decide +kernel
theorem d_md_owned_12 : decode m_md_owned.2.1 12 = .ok (.aload_n 0, 1) := by decide +kernel
theorem d_md_owned_13 : decode m_md_owned.2.1 13 = .ok (.getfield 69, 3) := by decide +kernel
theorem d_md_owned_16 : decode m_md_owned.2.1 16 = .ok (.iload_n 3, 1) := by decide +kernel
theorem d_md_owned_17 : decode m_md_owned.2.1 17 = .ok (.baload, 1) := by decide +kernel
theorem d_md_owned_18 : decode m_md_owned.2.1 18 = .ok (.ifCond .eq (17), 3) := by decide +kernel
theorem d_md_owned_21 : decode m_md_owned.2.1 21 = .ok (.aload_n 0, 1) := by decide +kernel
theorem d_md_owned_22 : decode m_md_owned.2.1 22 = .ok (.getfield 81, 3) := by decide +kernel
theorem d_md_owned_25 : decode m_md_owned.2.1 25 = .ok (.iload_n 3, 1) := by decide +kernel
theorem d_md_owned_26 : decode m_md_owned.2.1 26 = .ok (.iaload, 1) := by decide +kernel
theorem d_md_owned_27 : decode m_md_owned.2.1 27 = .ok (.iload_n 1, 1) := by decide +kernel
theorem d_md_owned_28 : decode m_md_owned.2.1 28 = .ok (.if_icmp .ne (7), 3) := by decide +kernel
theorem d_md_owned_31 : decode m_md_owned.2.1 31 = .ok (.iconst 1, 1) := by decide +kernel
theorem d_md_owned_32 : decode m_md_owned.2.1 32 = .ok (.goto 4, 3) := by decide +kernel
theorem d_md_owned_35 : decode m_md_owned.2.1 35 = .ok (.iconst 0, 1) := by decide +kernel
theorem d_md_owned_36 : decode m_md_owned.2.1 36 = .ok (.iadd, 1) := by decide +kernel
theorem d_md_owned_37 : decode m_md_owned.2.1 37 = .ok (.istore_n 2, 1) := by decide +kernel
theorem d_md_owned_38 : decode m_md_owned.2.1 38 = .ok (.iinc 3 1, 3) := by decide +kernel
theorem d_md_owned_41 : decode m_md_owned.2.1 41 = .ok (.goto (-37), 3) := by decide +kernel
theorem d_md_owned_44 : decode m_md_owned.2.1 44 = .ok (.iload_n 2, 1) := by decide +kernel
theorem d_md_owned_45 : decode m_md_owned.2.1 45 = .ok (.ireturn, 1) := by decide +kernel
theorem d_md_propose_0 : decode m_md_propose.2.1 0 = .ok (.bipush 80, 2) := by decide +kernel
theorem d_md_propose_2 : decode m_md_propose.2.1 2 = .ok (.aload_n 0, 1) := by decide +kernel
theorem d_md_propose_3 : decode m_md_propose.2.1 3 = .ok (.getfield 105, 3) := by decide +kernel
theorem d_md_propose_6 : decode m_md_propose.2.1 6 = .ok (.imul, 1) := by decide +kernel
theorem d_md_propose_7 : decode m_md_propose.2.1 7 = .ok (.aload_n 0, 1) := by decide +kernel
theorem d_md_propose_8 : decode m_md_propose.2.1 8 = .ok (.getfield 22, 3) := by decide +kernel
theorem d_md_propose_11 : decode m_md_propose.2.1 11 = .ok (.aload_n 0, 1) := by decide +kernel
theorem d_md_propose_12 : decode m_md_propose.2.1 12 = .ok (.getfield 105, 3) := by decide +kernel
theorem d_md_propose_15 : decode m_md_propose.2.1 15 = .ok (.iaload, 1) := by decide +kernel
theorem d_md_propose_16 : decode m_md_propose.2.1 16 = .ok (.iadd, 1) := by decide +kernel
theorem d_md_propose_17 : decode m_md_propose.2.1 17 = .ok (.istore 5, 2) := by decide +kernel
theorem d_md_propose_19 : decode m_md_propose.2.1 19 = .ok (.aload_n 0, 1) := by decide +kernel
theorem d_md_propose_20 : decode m_md_propose.2.1 20 = .ok (.getfield 7, 3) := by decide +kernel
theorem d_md_propose_23 : decode m_md_propose.2.1 23 = .ok (.iload 5, 2) := by decide +kernel
theorem d_md_propose_25 : decode m_md_propose.2.1 25 = .ok (.iload_n 1, 1) := by decide +kernel
theorem d_md_propose_26 : decode m_md_propose.2.1 26 = .ok (.iastore, 1) := by decide +kernel
theorem d_md_propose_27 : decode m_md_propose.2.1 27 = .ok (.aload_n 0, 1) := by decide +kernel
theorem d_md_propose_28 : decode m_md_propose.2.1 28 = .ok (.getfield 13, 3) := by decide +kernel
theorem d_md_propose_31 : decode m_md_propose.2.1 31 = .ok (.iload 5, 2) := by decide +kernel
theorem d_md_propose_33 : decode m_md_propose.2.1 33 = .ok (.iload_n 2, 1) := by decide +kernel
theorem d_md_propose_34 : decode m_md_propose.2.1 34 = .ok (.iastore, 1) := by decide +kernel
theorem d_md_propose_35 : decode m_md_propose.2.1 35 = .ok (.aload_n 0, 1) := by decide +kernel
theorem d_md_propose_36 : decode m_md_propose.2.1 36 = .ok (.getfield 16, 3) := by decide +kernel
theorem d_md_propose_39 : decode m_md_propose.2.1 39 = .ok (.iload 5, 2) := by decide +kernel
theorem d_md_propose_41 : decode m_md_propose.2.1 41 = .ok (.iload_n 3, 1) := by decide +kernel
theorem d_md_propose_42 : decode m_md_propose.2.1 42 = .ok (.iastore, 1) := by decide +kernel
theorem d_md_propose_43 : decode m_md_propose.2.1 43 = .ok (.aload_n 0, 1) := by decide +kernel
theorem d_md_propose_44 : decode m_md_propose.2.1 44 = .ok (.getfield 19, 3) := by decide +kernel
theorem d_md_propose_47 : decode m_md_propose.2.1 47 = .ok (.iload 5, 2) := by decide +kernel
theorem d_md_propose_49 : decode m_md_propose.2.1 49 = .ok (.iload 4, 2) := by decide +kernel
theorem d_md_propose_51 : decode m_md_propose.2.1 51 = .ok (.iastore, 1) := by decide +kernel
theorem d_md_propose_52 : decode m_md_propose.2.1 52 = .ok (.aload_n 0, 1) := by decide +kernel
theorem d_md_propose_53 : decode m_md_propose.2.1 53 = .ok (.getfield 22, 3) := by decide +kernel
theorem d_md_propose_56 : decode m_md_propose.2.1 56 = .ok (.aload_n 0, 1) := by decide +kernel
theorem d_md_propose_57 : decode m_md_propose.2.1 57 = .ok (.getfield 105, 3) := by decide +kernel
theorem d_md_propose_60 : decode m_md_propose.2.1 60 = .ok (.dup2, 1) := by decide +kernel
theorem d_md_propose_61 : decode m_md_propose.2.1 61 = .ok (.iaload, 1) := by decide +kernel
theorem d_md_propose_62 : decode m_md_propose.2.1 62 = .ok (.iconst 1, 1) := by decide +kernel
theorem d_md_propose_63 : decode m_md_propose.2.1 63 = .ok (.iadd, 1) := by decide +kernel
theorem d_md_propose_64 : decode m_md_propose.2.1 64 = .ok (.iastore, 1) := by decide +kernel
theorem d_md_propose_65 : decode m_md_propose.2.1 65 = .ok (.aload_n 0, 1) := by decide +kernel
theorem d_md_propose_66 : decode m_md_propose.2.1 66 = .ok (.invokevirtual 125, 3) := by decide +kernel
theorem d_md_propose_69 : decode m_md_propose.2.1 69 = .ok (.return_, 1) := by decide +kernel
theorem d_md_spread_0 : decode m_md_spread.2.1 0 = .ok (.iconst 0, 1) := by decide +kernel
theorem d_md_spread_1 : decode m_md_spread.2.1 1 = .ok (.istore_n 1, 1) := by decide +kernel
theorem d_md_spread_2 : decode m_md_spread.2.1 2 = .ok (.iload_n 1, 1) := by decide +kernel
theorem d_md_spread_3 : decode m_md_spread.2.1 3 = .ok (.iconst 3, 1) := by decide +kernel
theorem d_md_spread_4 : decode m_md_spread.2.1 4 = .ok (.if_icmp .ge (27), 3) := by decide +kernel
theorem d_md_spread_7 : decode m_md_spread.2.1 7 = .ok (.aload_n 0, 1) := by decide +kernel
theorem d_md_spread_8 : decode m_md_spread.2.1 8 = .ok (.iload_n 1, 1) := by decide +kernel
theorem d_md_spread_9 : decode m_md_spread.2.1 9 = .ok (.invokevirtual 112, 3) := by decide +kernel
theorem d_md_spread_12 : decode m_md_spread.2.1 12 = .ok (.ifCond .eq (13), 3) := by decide +kernel
theorem d_md_spread_15 : decode m_md_spread.2.1 15 = .ok (.aload_n 0, 1) := by decide +kernel
theorem d_md_spread_16 : decode m_md_spread.2.1 16 = .ok (.getfield 28, 3) := by decide +kernel
theorem d_md_spread_19 : decode m_md_spread.2.1 19 = .ok (.iload_n 1, 1) := by decide +kernel
theorem d_md_spread_20 : decode m_md_spread.2.1 20 = .ok (.aload_n 0, 1) := by decide +kernel
theorem d_md_spread_21 : decode m_md_spread.2.1 21 = .ok (.getfield 38, 3) := by decide +kernel
theorem d_md_spread_24 : decode m_md_spread.2.1 24 = .ok (.iastore, 1) := by decide +kernel
theorem d_md_spread_25 : decode m_md_spread.2.1 25 = .ok (.iinc 1 1, 3) := by decide +kernel
theorem d_md_spread_28 : decode m_md_spread.2.1 28 = .ok (.goto (-26), 3) := by decide +kernel
theorem d_md_spread_31 : decode m_md_spread.2.1 31 = .ok (.iconst 0, 1) := by decide +kernel
theorem d_md_spread_32 : decode m_md_spread.2.1 32 = .ok (.istore_n 1, 1) := by decide +kernel
theorem d_md_spread_33 : decode m_md_spread.2.1 33 = .ok (.iload_n 1, 1) := by decide +kernel
theorem d_md_spread_34 : decode m_md_spread.2.1 34 = .ok (.iconst 3, 1) := by decide +kernel
theorem d_md_spread_35 : decode m_md_spread.2.1 35 = .ok (.if_icmp .ge (80), 3) := by decide +kernel
theorem d_md_spread_38 : decode m_md_spread.2.1 38 = .ok (.aload_n 0, 1) := by decide +kernel
theorem d_md_spread_39 : decode m_md_spread.2.1 39 = .ok (.iload_n 1, 1) := by decide +kernel
theorem d_md_spread_40 : decode m_md_spread.2.1 40 = .ok (.invokevirtual 112, 3) := by decide +kernel
theorem d_md_spread_43 : decode m_md_spread.2.1 43 = .ok (.ifCond .eq (66), 3) := by decide +kernel
theorem d_md_spread_46 : decode m_md_spread.2.1 46 = .ok (.iload_n 1, 1) := by decide +kernel
theorem d_md_spread_47 : decode m_md_spread.2.1 47 = .ok (.aload_n 0, 1) := by decide +kernel
theorem d_md_spread_48 : decode m_md_spread.2.1 48 = .ok (.getfield 105, 3) := by decide +kernel
theorem d_md_spread_51 : decode m_md_spread.2.1 51 = .ok (.if_icmp .ne (6), 3) := by decide +kernel
theorem d_md_spread_54 : decode m_md_spread.2.1 54 = .ok (.goto 55, 3) := by decide +kernel
theorem d_md_spread_57 : decode m_md_spread.2.1 57 = .ok (.aload_n 0, 1) := by decide +kernel
theorem d_md_spread_58 : decode m_md_spread.2.1 58 = .ok (.getfield 22, 3) := by decide +kernel
theorem d_md_spread_61 : decode m_md_spread.2.1 61 = .ok (.iload_n 1, 1) := by decide +kernel
theorem d_md_spread_62 : decode m_md_spread.2.1 62 = .ok (.aload_n 0, 1) := by decide +kernel
theorem d_md_spread_63 : decode m_md_spread.2.1 63 = .ok (.getfield 22, 3) := by decide +kernel
theorem d_md_spread_66 : decode m_md_spread.2.1 66 = .ok (.aload_n 0, 1) := by decide +kernel
theorem d_md_spread_67 : decode m_md_spread.2.1 67 = .ok (.getfield 105, 3) := by decide +kernel
theorem d_md_spread_70 : decode m_md_spread.2.1 70 = .ok (.iaload, 1) := by decide +kernel
theorem d_md_spread_71 : decode m_md_spread.2.1 71 = .ok (.iastore, 1) := by decide +kernel
theorem d_md_spread_72 : decode m_md_spread.2.1 72 = .ok (.iconst 0, 1) := by decide +kernel
theorem d_md_spread_73 : decode m_md_spread.2.1 73 = .ok (.istore_n 2, 1) := by decide +kernel
theorem d_md_spread_74 : decode m_md_spread.2.1 74 = .ok (.iload_n 2, 1) := by decide +kernel
theorem d_md_spread_75 : decode m_md_spread.2.1 75 = .ok (.aload_n 0, 1) := by decide +kernel
theorem d_md_spread_76 : decode m_md_spread.2.1 76 = .ok (.getfield 22, 3) := by decide +kernel
theorem d_md_spread_79 : decode m_md_spread.2.1 79 = .ok (.iload_n 1, 1) := by decide +kernel
theorem d_md_spread_80 : decode m_md_spread.2.1 80 = .ok (.iaload, 1) := by decide +kernel
theorem d_md_spread_81 : decode m_md_spread.2.1 81 = .ok (.if_icmp .ge (28), 3) := by decide +kernel
theorem d_md_spread_84 : decode m_md_spread.2.1 84 = .ok (.aload_n 0, 1) := by decide +kernel
theorem d_md_spread_85 : decode m_md_spread.2.1 85 = .ok (.bipush 80, 2) := by decide +kernel
theorem d_md_spread_87 : decode m_md_spread.2.1 87 = .ok (.aload_n 0, 1) := by decide +kernel
theorem d_md_spread_88 : decode m_md_spread.2.1 88 = .ok (.getfield 105, 3) := by decide +kernel
theorem d_md_spread_91 : decode m_md_spread.2.1 91 = .ok (.imul, 1) := by decide +kernel
theorem d_md_spread_92 : decode m_md_spread.2.1 92 = .ok (.iload_n 2, 1) := by decide +kernel
theorem d_md_spread_93 : decode m_md_spread.2.1 93 = .ok (.iadd, 1) := by decide +kernel
theorem d_md_spread_94 : decode m_md_spread.2.1 94 = .ok (.bipush 80, 2) := by decide +kernel
theorem d_md_spread_96 : decode m_md_spread.2.1 96 = .ok (.iload_n 1, 1) := by decide +kernel
theorem d_md_spread_97 : decode m_md_spread.2.1 97 = .ok (.imul, 1) := by decide +kernel
theorem d_md_spread_98 : decode m_md_spread.2.1 98 = .ok (.iload_n 2, 1) := by decide +kernel
theorem d_md_spread_99 : decode m_md_spread.2.1 99 = .ok (.iadd, 1) := by decide +kernel
theorem d_md_spread_100 : decode m_md_spread.2.1 100 = .ok (.invokevirtual 115, 3) := by decide +kernel
theorem d_md_spread_103 : decode m_md_spread.2.1 103 = .ok (.iinc 2 1, 3) := by decide +kernel
theorem d_md_spread_106 : decode m_md_spread.2.1 106 = .ok (.goto (-32), 3) := by decide +kernel
theorem d_md_spread_109 : decode m_md_spread.2.1 109 = .ok (.iinc 1 1, 3) := by decide +kernel
theorem d_md_spread_112 : decode m_md_spread.2.1 112 = .ok (.goto (-79), 3) := by decide +kernel
theorem d_md_spread_115 : decode m_md_spread.2.1 115 = .ok (.iconst 0, 1) := by decide +kernel
theorem d_md_spread_116 : decode m_md_spread.2.1 116 = .ok (.istore_n 1, 1) := by decide +kernel
theorem d_md_spread_117 : decode m_md_spread.2.1 117 = .ok (.iload_n 1, 1) := by decide +kernel
theorem d_md_spread_118 : decode m_md_spread.2.1 118 = .ok (.iconst 3, 1) := by decide +kernel
theorem d_md_spread_119 : decode m_md_spread.2.1 119 = .ok (.if_icmp .ge (84), 3) := by decide +kernel
theorem d_md_spread_122 : decode m_md_spread.2.1 122 = .ok (.aload_n 0, 1) := by decide +kernel
theorem d_md_spread_123 : decode m_md_spread.2.1 123 = .ok (.invokevirtual 118, 3) := by decide +kernel
theorem d_md_spread_126 : decode m_md_spread.2.1 126 = .ok (.ifCond .eq (77), 3) := by decide +kernel
theorem d_md_spread_129 : decode m_md_spread.2.1 129 = .ok (.aload_n 0, 1) := by decide +kernel
theorem d_md_spread_130 : decode m_md_spread.2.1 130 = .ok (.iload_n 1, 1) := by decide +kernel
theorem d_md_spread_131 : decode m_md_spread.2.1 131 = .ok (.invokevirtual 112, 3) := by decide +kernel
theorem d_md_spread_134 : decode m_md_spread.2.1 134 = .ok (.ifCond .ne (6), 3) := by decide +kernel
theorem d_md_spread_137 : decode m_md_spread.2.1 137 = .ok (.goto 60, 3) := by decide +kernel
theorem d_md_spread_140 : decode m_md_spread.2.1 140 = .ok (.aload_n 0, 1) := by decide +kernel
theorem d_md_spread_141 : decode m_md_spread.2.1 141 = .ok (.iload_n 1, 1) := by decide +kernel
theorem d_md_spread_142 : decode m_md_spread.2.1 142 = .ok (.aload_n 0, 1) := by decide +kernel
theorem d_md_spread_143 : decode m_md_spread.2.1 143 = .ok (.getfield 25, 3) := by decide +kernel
theorem d_md_spread_146 : decode m_md_spread.2.1 146 = .ok (.iload_n 1, 1) := by decide +kernel
theorem d_md_spread_147 : decode m_md_spread.2.1 147 = .ok (.iaload, 1) := by decide +kernel
theorem d_md_spread_148 : decode m_md_spread.2.1 148 = .ok (.invokevirtual 122, 3) := by decide +kernel
theorem d_md_spread_151 : decode m_md_spread.2.1 151 = .ok (.aload_n 0, 1) := by decide +kernel
theorem d_md_spread_152 : decode m_md_spread.2.1 152 = .ok (.getfield 25, 3) := by decide +kernel
theorem d_md_spread_155 : decode m_md_spread.2.1 155 = .ok (.iload_n 1, 1) := by decide +kernel
theorem d_md_spread_156 : decode m_md_spread.2.1 156 = .ok (.iaload, 1) := by decide +kernel
theorem d_md_spread_157 : decode m_md_spread.2.1 157 = .ok (.istore_n 2, 1) := by decide +kernel
theorem d_md_spread_158 : decode m_md_spread.2.1 158 = .ok (.iload_n 2, 1) := by decide +kernel
theorem d_md_spread_159 : decode m_md_spread.2.1 159 = .ok (.aload_n 0, 1) := by decide +kernel
theorem d_md_spread_160 : decode m_md_spread.2.1 160 = .ok (.getfield 22, 3) := by decide +kernel
theorem d_md_spread_163 : decode m_md_spread.2.1 163 = .ok (.iload_n 1, 1) := by decide +kernel
theorem d_md_spread_164 : decode m_md_spread.2.1 164 = .ok (.iaload, 1) := by decide +kernel
theorem d_md_spread_165 : decode m_md_spread.2.1 165 = .ok (.if_icmp .ge (20), 3) := by decide +kernel
theorem d_md_spread_168 : decode m_md_spread.2.1 168 = .ok (.aload_n 0, 1) := by decide +kernel
theorem d_md_spread_169 : decode m_md_spread.2.1 169 = .ok (.bipush 80, 2) := by decide +kernel
theorem d_md_spread_171 : decode m_md_spread.2.1 171 = .ok (.iload_n 1, 1) := by decide +kernel
theorem d_md_spread_172 : decode m_md_spread.2.1 172 = .ok (.imul, 1) := by decide +kernel
theorem d_md_spread_173 : decode m_md_spread.2.1 173 = .ok (.iload_n 2, 1) := by decide +kernel
theorem d_md_spread_174 : decode m_md_spread.2.1 174 = .ok (.iadd, 1) := by decide +kernel
theorem d_md_spread_175 : decode m_md_spread.2.1 175 = .ok (.iload_n 1, 1) := by decide +kernel
theorem d_md_spread_176 : decode m_md_spread.2.1 176 = .ok (.invokevirtual 98, 3) := by decide +kernel
theorem d_md_spread_179 : decode m_md_spread.2.1 179 = .ok (.iinc 2 1, 3) := by decide +kernel
theorem d_md_spread_182 : decode m_md_spread.2.1 182 = .ok (.goto (-24), 3) := by decide +kernel
theorem d_md_spread_185 : decode m_md_spread.2.1 185 = .ok (.aload_n 0, 1) := by decide +kernel
theorem d_md_spread_186 : decode m_md_spread.2.1 186 = .ok (.getfield 25, 3) := by decide +kernel
theorem d_md_spread_189 : decode m_md_spread.2.1 189 = .ok (.iload_n 1, 1) := by decide +kernel
theorem d_md_spread_190 : decode m_md_spread.2.1 190 = .ok (.aload_n 0, 1) := by decide +kernel
theorem d_md_spread_191 : decode m_md_spread.2.1 191 = .ok (.getfield 22, 3) := by decide +kernel
theorem d_md_spread_194 : decode m_md_spread.2.1 194 = .ok (.iload_n 1, 1) := by decide +kernel
theorem d_md_spread_195 : decode m_md_spread.2.1 195 = .ok (.iaload, 1) := by decide +kernel
theorem d_md_spread_196 : decode m_md_spread.2.1 196 = .ok (.iastore, 1) := by decide +kernel
theorem d_md_spread_197 : decode m_md_spread.2.1 197 = .ok (.iinc 1 1, 3) := by decide +kernel
theorem d_md_spread_200 : decode m_md_spread.2.1 200 = .ok (.goto (-83), 3) := by decide +kernel
theorem d_md_spread_203 : decode m_md_spread.2.1 203 = .ok (.return_, 1) := by decide +kernel
theorem d_md_copyEntry_0 : decode m_md_copyEntry.2.1 0 = .ok (.aload_n 0, 1) := by decide +kernel
theorem d_md_copyEntry_1 : decode m_md_copyEntry.2.1 1 = .ok (.getfield 7, 3) := by decide +kernel
theorem d_md_copyEntry_4 : decode m_md_copyEntry.2.1 4 = .ok (.iload_n 2, 1) := by decide +kernel
theorem d_md_copyEntry_5 : decode m_md_copyEntry.2.1 5 = .ok (.aload_n 0, 1) := by decide +kernel
theorem d_md_copyEntry_6 : decode m_md_copyEntry.2.1 6 = .ok (.getfield 7, 3) := by decide +kernel
theorem d_md_copyEntry_9 : decode m_md_copyEntry.2.1 9 = .ok (.iload_n 1, 1) := by decide +kernel
theorem d_md_copyEntry_10 : decode m_md_copyEntry.2.1 10 = .ok (.iaload, 1) := by decide +kernel
theorem d_md_copyEntry_11 : decode m_md_copyEntry.2.1 11 = .ok (.iastore, 1) := by decide +kernel
theorem d_md_copyEntry_12 : decode m_md_copyEntry.2.1 12 = .ok (.aload_n 0, 1) := by decide +kernel
theorem d_md_copyEntry_13 : decode m_md_copyEntry.2.1 13 = .ok (.getfield 13, 3) := by decide +kernel
theorem d_md_copyEntry_16 : decode m_md_copyEntry.2.1 16 = .ok (.iload_n 2, 1) := by decide +kernel
theorem d_md_copyEntry_17 : decode m_md_copyEntry.2.1 17 = .ok (.aload_n 0, 1) := by decide +kernel
theorem d_md_copyEntry_18 : decode m_md_copyEntry.2.1 18 = .ok (.getfield 13, 3) := by decide +kernel
theorem d_md_copyEntry_21 : decode m_md_copyEntry.2.1 21 = .ok (.iload_n 1, 1) := by decide +kernel
theorem d_md_copyEntry_22 : decode m_md_copyEntry.2.1 22 = .ok (.iaload, 1) := by decide +kernel
theorem d_md_copyEntry_23 : decode m_md_copyEntry.2.1 23 = .ok (.iastore, 1) := by decide +kernel
theorem d_md_copyEntry_24 : decode m_md_copyEntry.2.1 24 = .ok (.aload_n 0, 1) := by decide +kernel
theorem d_md_copyEntry_25 : decode m_md_copyEntry.2.1 25 = .ok (.getfield 16, 3) := by decide +kernel
theorem d_md_copyEntry_28 : decode m_md_copyEntry.2.1 28 = .ok (.iload_n 2, 1) := by decide +kernel
theorem d_md_copyEntry_29 : decode m_md_copyEntry.2.1 29 = .ok (.aload_n 0, 1) := by decide +kernel
theorem d_md_copyEntry_30 : decode m_md_copyEntry.2.1 30 = .ok (.getfield 16, 3) := by decide +kernel
theorem d_md_copyEntry_33 : decode m_md_copyEntry.2.1 33 = .ok (.iload_n 1, 1) := by decide +kernel
theorem d_md_copyEntry_34 : decode m_md_copyEntry.2.1 34 = .ok (.iaload, 1) := by decide +kernel
theorem d_md_copyEntry_35 : decode m_md_copyEntry.2.1 35 = .ok (.iastore, 1) := by decide +kernel
theorem d_md_copyEntry_36 : decode m_md_copyEntry.2.1 36 = .ok (.aload_n 0, 1) := by decide +kernel
theorem d_md_copyEntry_37 : decode m_md_copyEntry.2.1 37 = .ok (.getfield 19, 3) := by decide +kernel
theorem d_md_copyEntry_40 : decode m_md_copyEntry.2.1 40 = .ok (.iload_n 2, 1) := by decide +kernel
theorem d_md_copyEntry_41 : decode m_md_copyEntry.2.1 41 = .ok (.aload_n 0, 1) := by decide +kernel
theorem d_md_copyEntry_42 : decode m_md_copyEntry.2.1 42 = .ok (.getfield 19, 3) := by decide +kernel
theorem d_md_copyEntry_45 : decode m_md_copyEntry.2.1 45 = .ok (.iload_n 1, 1) := by decide +kernel
theorem d_md_copyEntry_46 : decode m_md_copyEntry.2.1 46 = .ok (.iaload, 1) := by decide +kernel
theorem d_md_copyEntry_47 : decode m_md_copyEntry.2.1 47 = .ok (.iastore, 1) := by decide +kernel
theorem d_md_copyEntry_48 : decode m_md_copyEntry.2.1 48 = .ok (.return_, 1) := by decide +kernel
theorem d_md_close_0 : decode m_md_close.2.1 0 = .ok (.aload_n 0, 1) := by decide +kernel
theorem d_md_close_1 : decode m_md_close.2.1 1 = .ok (.iconst 0, 1) := by decide +kernel
theorem d_md_close_2 : decode m_md_close.2.1 2 = .ok (.putfield 84, 3) := by decide +kernel
theorem d_md_close_5 : decode m_md_close.2.1 5 = .ok (.aload_n 0, 1) := by decide +kernel
theorem d_md_close_6 : decode m_md_close.2.1 6 = .ok (.iload_n 1, 1) := by decide +kernel
theorem d_md_close_7 : decode m_md_close.2.1 7 = .ok (.iconst 4, 1) := by decide +kernel
theorem d_md_close_8 : decode m_md_close.2.1 8 = .ok (.invokevirtual 145, 3) := by decide +kernel
theorem d_md_close_11 : decode m_md_close.2.1 11 = .ok (.ifCond .eq (9), 3) := by decide +kernel
theorem d_md_close_14 : decode m_md_close.2.1 14 = .ok (.aload_n 0, 1) := by decide +kernel
theorem d_md_close_15 : decode m_md_close.2.1 15 = .ok (.iconst 1, 1) := by decide +kernel
theorem d_md_close_16 : decode m_md_close.2.1 16 = .ok (.invokevirtual 149, 3) := by decide +kernel
theorem d_md_close_19 : decode m_md_close.2.1 19 = .ok (.ireturn, 1) := by decide +kernel
theorem d_md_close_20 : decode m_md_close.2.1 20 = .ok (.aload_n 0, 1) := by decide +kernel
theorem d_md_close_21 : decode m_md_close.2.1 21 = .ok (.iload_n 1, 1) := by decide +kernel
theorem d_md_close_22 : decode m_md_close.2.1 22 = .ok (.invokevirtual 158, 3) := by decide +kernel
theorem d_md_close_25 : decode m_md_close.2.1 25 = .ok (.ifCond .eq (10), 3) := by decide +kernel
theorem d_md_close_28 : decode m_md_close.2.1 28 = .ok (.aload_n 0, 1) := by decide +kernel
theorem d_md_close_29 : decode m_md_close.2.1 29 = .ok (.invokevirtual 118, 3) := by decide +kernel
theorem d_md_close_32 : decode m_md_close.2.1 32 = .ok (.ifCond .ne (9), 3) := by decide +kernel
theorem d_md_close_35 : decode m_md_close.2.1 35 = .ok (.aload_n 0, 1) := by decide +kernel
theorem d_md_close_36 : decode m_md_close.2.1 36 = .ok (.iconst 2, 1) := by decide +kernel
theorem d_md_close_37 : decode m_md_close.2.1 37 = .ok (.invokevirtual 149, 3) := by decide +kernel
theorem d_md_close_40 : decode m_md_close.2.1 40 = .ok (.ireturn, 1) := by decide +kernel
theorem d_md_close_41 : decode m_md_close.2.1 41 = .ok (.aload_n 0, 1) := by decide +kernel
theorem d_md_close_42 : decode m_md_close.2.1 42 = .ok (.invokevirtual 128, 3) := by decide +kernel
theorem d_md_close_45 : decode m_md_close.2.1 45 = .ok (.aload_n 0, 1) := by decide +kernel
theorem d_md_close_46 : decode m_md_close.2.1 46 = .ok (.iload_n 1, 1) := by decide +kernel
theorem d_md_close_47 : decode m_md_close.2.1 47 = .ok (.invokevirtual 131, 3) := by decide +kernel
theorem d_md_close_50 : decode m_md_close.2.1 50 = .ok (.istore_n 2, 1) := by decide +kernel
theorem d_md_close_51 : decode m_md_close.2.1 51 = .ok (.aload_n 0, 1) := by decide +kernel
theorem d_md_close_52 : decode m_md_close.2.1 52 = .ok (.iload_n 1, 1) := by decide +kernel
theorem d_md_close_53 : decode m_md_close.2.1 53 = .ok (.invokevirtual 161, 3) := by decide +kernel
theorem d_md_close_56 : decode m_md_close.2.1 56 = .ok (.aload_n 0, 1) := by decide +kernel
theorem d_md_close_57 : decode m_md_close.2.1 57 = .ok (.iload_n 2, 1) := by decide +kernel
theorem d_md_close_58 : decode m_md_close.2.1 58 = .ok (.invokevirtual 155, 3) := by decide +kernel
theorem d_md_close_61 : decode m_md_close.2.1 61 = .ok (.ireturn, 1) := by decide +kernel
theorem d_md_reaches_0 : decode m_md_reaches.2.1 0 = .ok (.aload_n 0, 1) := by decide +kernel
theorem d_md_reaches_1 : decode m_md_reaches.2.1 1 = .ok (.iload_n 1, 1) := by decide +kernel
theorem d_md_reaches_2 : decode m_md_reaches.2.1 2 = .ok (.invokevirtual 138, 3) := by decide +kernel
theorem d_md_reaches_5 : decode m_md_reaches.2.1 5 = .ok (.ifCond .eq (33), 3) := by decide +kernel
theorem d_md_reaches_8 : decode m_md_reaches.2.1 8 = .ok (.aload_n 0, 1) := by decide +kernel
theorem d_md_reaches_9 : decode m_md_reaches.2.1 9 = .ok (.aload_n 0, 1) := by decide +kernel
theorem d_md_reaches_10 : decode m_md_reaches.2.1 10 = .ok (.getfield 48, 3) := by decide +kernel
theorem d_md_reaches_13 : decode m_md_reaches.2.1 13 = .ok (.iload_n 1, 1) := by decide +kernel
theorem d_md_reaches_14 : decode m_md_reaches.2.1 14 = .ok (.iaload, 1) := by decide +kernel
theorem d_md_reaches_15 : decode m_md_reaches.2.1 15 = .ok (.invokevirtual 112, 3) := by decide +kernel
theorem d_md_reaches_18 : decode m_md_reaches.2.1 18 = .ok (.ifCond .ne (16), 3) := by decide +kernel
theorem d_md_reaches_21 : decode m_md_reaches.2.1 21 = .ok (.aload_n 0, 1) := by decide +kernel
theorem d_md_reaches_22 : decode m_md_reaches.2.1 22 = .ok (.getfield 48, 3) := by decide +kernel
theorem d_md_reaches_25 : decode m_md_reaches.2.1 25 = .ok (.iload_n 1, 1) := by decide +kernel
theorem d_md_reaches_26 : decode m_md_reaches.2.1 26 = .ok (.iaload, 1) := by decide +kernel
theorem d_md_reaches_27 : decode m_md_reaches.2.1 27 = .ok (.aload_n 0, 1) := by decide +kernel
theorem d_md_reaches_28 : decode m_md_reaches.2.1 28 = .ok (.getfield 105, 3) := by decide +kernel
theorem d_md_reaches_31 : decode m_md_reaches.2.1 31 = .ok (.if_icmp .ne (7), 3) := by decide +kernel
theorem d_md_reaches_34 : decode m_md_reaches.2.1 34 = .ok (.iconst 1, 1) := by decide +kernel
theorem d_md_reaches_35 : decode m_md_reaches.2.1 35 = .ok (.goto 4, 3) := by decide +kernel
theorem d_md_reaches_38 : decode m_md_reaches.2.1 38 = .ok (.iconst 0, 1) := by decide +kernel
theorem d_md_reaches_39 : decode m_md_reaches.2.1 39 = .ok (.ireturn, 1) := by decide +kernel
theorem d_md_connected_0 : decode m_md_connected.2.1 0 = .ok (.aload_n 0, 1) := by decide +kernel
theorem d_md_connected_1 : decode m_md_connected.2.1 1 = .ok (.getfield 42, 3) := by decide +kernel
theorem d_md_connected_4 : decode m_md_connected.2.1 4 = .ok (.iload_n 1, 1) := by decide +kernel
theorem d_md_connected_5 : decode m_md_connected.2.1 5 = .ok (.baload, 1) := by decide +kernel
theorem d_md_connected_6 : decode m_md_connected.2.1 6 = .ok (.ifCond .eq (21), 3) := by decide +kernel
theorem d_md_connected_9 : decode m_md_connected.2.1 9 = .ok (.aload_n 0, 1) := by decide +kernel
theorem d_md_connected_10 : decode m_md_connected.2.1 10 = .ok (.getfield 31, 3) := by decide +kernel
theorem d_md_connected_13 : decode m_md_connected.2.1 13 = .ok (.aload_n 0, 1) := by decide +kernel
theorem d_md_connected_14 : decode m_md_connected.2.1 14 = .ok (.getfield 48, 3) := by decide +kernel
theorem d_md_connected_17 : decode m_md_connected.2.1 17 = .ok (.iload_n 1, 1) := by decide +kernel
theorem d_md_connected_18 : decode m_md_connected.2.1 18 = .ok (.iaload, 1) := by decide +kernel
theorem d_md_connected_19 : decode m_md_connected.2.1 19 = .ok (.baload, 1) := by decide +kernel
theorem d_md_connected_20 : decode m_md_connected.2.1 20 = .ok (.ifCond .ne (7), 3) := by decide +kernel
theorem d_md_connected_23 : decode m_md_connected.2.1 23 = .ok (.iconst 1, 1) := by decide +kernel
theorem d_md_connected_24 : decode m_md_connected.2.1 24 = .ok (.goto 4, 3) := by decide +kernel
theorem d_md_connected_27 : decode m_md_connected.2.1 27 = .ok (.iconst 0, 1) := by decide +kernel
theorem d_md_connected_28 : decode m_md_connected.2.1 28 = .ok (.ireturn, 1) := by decide +kernel
theorem d_md_finish_0 : decode m_md_finish.2.1 0 = .ok (.aload_n 0, 1) := by decide +kernel
theorem d_md_finish_1 : decode m_md_finish.2.1 1 = .ok (.getfield 42, 3) := by decide +kernel
theorem d_md_finish_4 : decode m_md_finish.2.1 4 = .ok (.iload_n 1, 1) := by decide +kernel
theorem d_md_finish_5 : decode m_md_finish.2.1 5 = .ok (.iconst 0, 1) := by decide +kernel
theorem d_md_finish_6 : decode m_md_finish.2.1 6 = .ok (.bastore, 1) := by decide +kernel
theorem d_md_finish_7 : decode m_md_finish.2.1 7 = .ok (.aload_n 0, 1) := by decide +kernel
theorem d_md_finish_8 : decode m_md_finish.2.1 8 = .ok (.getfield 45, 3) := by decide +kernel
theorem d_md_finish_11 : decode m_md_finish.2.1 11 = .ok (.iload_n 1, 1) := by decide +kernel
theorem d_md_finish_12 : decode m_md_finish.2.1 12 = .ok (.iconst 1, 1) := by decide +kernel
theorem d_md_finish_13 : decode m_md_finish.2.1 13 = .ok (.bastore, 1) := by decide +kernel
theorem d_md_finish_14 : decode m_md_finish.2.1 14 = .ok (.aload_n 0, 1) := by decide +kernel
theorem d_md_finish_15 : decode m_md_finish.2.1 15 = .ok (.iload_n 1, 1) := by decide +kernel
theorem d_md_finish_16 : decode m_md_finish.2.1 16 = .ok (.invokevirtual 141, 3) := by decide +kernel
theorem d_md_finish_19 : decode m_md_finish.2.1 19 = .ok (.aload_n 0, 1) := by decide +kernel
theorem d_md_finish_20 : decode m_md_finish.2.1 20 = .ok (.getfield 66, 3) := by decide +kernel
theorem d_md_finish_23 : decode m_md_finish.2.1 23 = .ok (.iload_n 1, 1) := by decide +kernel
theorem d_md_finish_24 : decode m_md_finish.2.1 24 = .ok (.iconst 0, 1) := by decide +kernel
theorem d_md_finish_25 : decode m_md_finish.2.1 25 = .ok (.iastore, 1) := by decide +kernel
theorem d_md_finish_26 : decode m_md_finish.2.1 26 = .ok (.return_, 1) := by decide +kernel
theorem d_md_forget_0 : decode m_md_forget.2.1 0 = .ok (.iconst 0, 1) := by decide +kernel
theorem d_md_forget_1 : decode m_md_forget.2.1 1 = .ok (.istore_n 2, 1) := by decide +kernel
theorem d_md_forget_2 : decode m_md_forget.2.1 2 = .ok (.iload_n 2, 1) := by decide +kernel
theorem d_md_forget_3 : decode m_md_forget.2.1 3 = .ok (.sipush 259, 3) := by decide +kernel
theorem d_md_forget_6 : decode m_md_forget.2.1 6 = .ok (.if_icmp .ge (35), 3) := by decide +kernel
theorem d_md_forget_9 : decode m_md_forget.2.1 9 = .ok (.aload_n 0, 1) := by decide +kernel
theorem d_md_forget_10 : decode m_md_forget.2.1 10 = .ok (.getfield 57, 3) := by decide +kernel
theorem d_md_forget_13 : decode m_md_forget.2.1 13 = .ok (.sipush 259, 3) := by decide +kernel
theorem d_md_forget_16 : decode m_md_forget.2.1 16 = .ok (.iload_n 1, 1) := by decide +kernel
theorem d_md_forget_17 : decode m_md_forget.2.1 17 = .ok (.imul, 1) := by decide +kernel
theorem d_md_forget_18 : decode m_md_forget.2.1 18 = .ok (.iload_n 2, 1) := by decide +kernel
theorem d_md_forget_19 : decode m_md_forget.2.1 19 = .ok (.iadd, 1) := by decide +kernel
theorem d_md_forget_20 : decode m_md_forget.2.1 20 = .ok (.iconst 0, 1) := by decide +kernel
theorem d_md_forget_21 : decode m_md_forget.2.1 21 = .ok (.bastore, 1) := by decide +kernel
theorem d_md_forget_22 : decode m_md_forget.2.1 22 = .ok (.aload_n 0, 1) := by decide +kernel
theorem d_md_forget_23 : decode m_md_forget.2.1 23 = .ok (.getfield 60, 3) := by decide +kernel
theorem d_md_forget_26 : decode m_md_forget.2.1 26 = .ok (.sipush 259, 3) := by decide +kernel
theorem d_md_forget_29 : decode m_md_forget.2.1 29 = .ok (.iload_n 1, 1) := by decide +kernel
theorem d_md_forget_30 : decode m_md_forget.2.1 30 = .ok (.imul, 1) := by decide +kernel
theorem d_md_forget_31 : decode m_md_forget.2.1 31 = .ok (.iload_n 2, 1) := by decide +kernel
theorem d_md_forget_32 : decode m_md_forget.2.1 32 = .ok (.iadd, 1) := by decide +kernel
theorem d_md_forget_33 : decode m_md_forget.2.1 33 = .ok (.iconst 0, 1) := by decide +kernel
theorem d_md_forget_34 : decode m_md_forget.2.1 34 = .ok (.bastore, 1) := by decide +kernel
theorem d_md_forget_35 : decode m_md_forget.2.1 35 = .ok (.iinc 2 1, 3) := by decide +kernel
theorem d_md_forget_38 : decode m_md_forget.2.1 38 = .ok (.goto (-36), 3) := by decide +kernel
theorem d_md_forget_41 : decode m_md_forget.2.1 41 = .ok (.return_, 1) := by decide +kernel
theorem d_md_ping_0 : decode m_md_ping.2.1 0 = .ok (.aload_n 0, 1) := by decide +kernel
theorem d_md_ping_1 : decode m_md_ping.2.1 1 = .ok (.iconst 0, 1) := by decide +kernel
theorem d_md_ping_2 : decode m_md_ping.2.1 2 = .ok (.putfield 84, 3) := by decide +kernel
theorem d_md_ping_5 : decode m_md_ping.2.1 5 = .ok (.aload_n 0, 1) := by decide +kernel
theorem d_md_ping_6 : decode m_md_ping.2.1 6 = .ok (.iload_n 1, 1) := by decide +kernel
theorem d_md_ping_7 : decode m_md_ping.2.1 7 = .ok (.iconst 4, 1) := by decide +kernel
theorem d_md_ping_8 : decode m_md_ping.2.1 8 = .ok (.invokevirtual 145, 3) := by decide +kernel
theorem d_md_ping_11 : decode m_md_ping.2.1 11 = .ok (.ifCond .eq (9), 3) := by decide +kernel
theorem d_md_ping_14 : decode m_md_ping.2.1 14 = .ok (.aload_n 0, 1) := by decide +kernel
theorem d_md_ping_15 : decode m_md_ping.2.1 15 = .ok (.iconst 1, 1) := by decide +kernel
theorem d_md_ping_16 : decode m_md_ping.2.1 16 = .ok (.invokevirtual 149, 3) := by decide +kernel
theorem d_md_ping_19 : decode m_md_ping.2.1 19 = .ok (.ireturn, 1) := by decide +kernel
theorem d_md_ping_20 : decode m_md_ping.2.1 20 = .ok (.aload_n 0, 1) := by decide +kernel
theorem d_md_ping_21 : decode m_md_ping.2.1 21 = .ok (.iload_n 1, 1) := by decide +kernel
theorem d_md_ping_22 : decode m_md_ping.2.1 22 = .ok (.invokevirtual 158, 3) := by decide +kernel
theorem d_md_ping_25 : decode m_md_ping.2.1 25 = .ok (.ifCond .eq (10), 3) := by decide +kernel
theorem d_md_ping_28 : decode m_md_ping.2.1 28 = .ok (.aload_n 0, 1) := by decide +kernel
theorem d_md_ping_29 : decode m_md_ping.2.1 29 = .ok (.invokevirtual 118, 3) := by decide +kernel
theorem d_md_ping_32 : decode m_md_ping.2.1 32 = .ok (.ifCond .ne (9), 3) := by decide +kernel
theorem d_md_ping_35 : decode m_md_ping.2.1 35 = .ok (.aload_n 0, 1) := by decide +kernel
theorem d_md_ping_36 : decode m_md_ping.2.1 36 = .ok (.iconst 2, 1) := by decide +kernel
theorem d_md_ping_37 : decode m_md_ping.2.1 37 = .ok (.invokevirtual 149, 3) := by decide +kernel
theorem d_md_ping_40 : decode m_md_ping.2.1 40 = .ok (.ireturn, 1) := by decide +kernel
theorem d_md_ping_41 : decode m_md_ping.2.1 41 = .ok (.aload_n 0, 1) := by decide +kernel
theorem d_md_ping_42 : decode m_md_ping.2.1 42 = .ok (.getfield 54, 3) := by decide +kernel
theorem d_md_ping_45 : decode m_md_ping.2.1 45 = .ok (.iload_n 1, 1) := by decide +kernel
theorem d_md_ping_46 : decode m_md_ping.2.1 46 = .ok (.aload_n 0, 1) := by decide +kernel
theorem d_md_ping_47 : decode m_md_ping.2.1 47 = .ok (.getfield 152, 3) := by decide +kernel
theorem d_md_ping_50 : decode m_md_ping.2.1 50 = .ok (.iastore, 1) := by decide +kernel
theorem d_md_ping_51 : decode m_md_ping.2.1 51 = .ok (.aload_n 0, 1) := by decide +kernel
theorem d_md_ping_52 : decode m_md_ping.2.1 52 = .ok (.aload_n 0, 1) := by decide +kernel
theorem d_md_ping_53 : decode m_md_ping.2.1 53 = .ok (.getfield 66, 3) := by decide +kernel
theorem d_md_ping_56 : decode m_md_ping.2.1 56 = .ok (.iload_n 1, 1) := by decide +kernel
theorem d_md_ping_57 : decode m_md_ping.2.1 57 = .ok (.iaload, 1) := by decide +kernel
theorem d_md_ping_58 : decode m_md_ping.2.1 58 = .ok (.invokevirtual 155, 3) := by decide +kernel
theorem d_md_ping_61 : decode m_md_ping.2.1 61 = .ok (.ireturn, 1) := by decide +kernel
theorem d_md_move_0 : decode m_md_move.2.1 0 = .ok (.aload_n 0, 1) := by decide +kernel
theorem d_md_move_1 : decode m_md_move.2.1 1 = .ok (.iconst 0, 1) := by decide +kernel
theorem d_md_move_2 : decode m_md_move.2.1 2 = .ok (.putfield 84, 3) := by decide +kernel
theorem d_md_move_5 : decode m_md_move.2.1 5 = .ok (.aload_n 0, 1) := by decide +kernel
theorem d_md_move_6 : decode m_md_move.2.1 6 = .ok (.iload_n 1, 1) := by decide +kernel
theorem d_md_move_7 : decode m_md_move.2.1 7 = .ok (.iconst 4, 1) := by decide +kernel
theorem d_md_move_8 : decode m_md_move.2.1 8 = .ok (.invokevirtual 145, 3) := by decide +kernel
theorem d_md_move_11 : decode m_md_move.2.1 11 = .ok (.ifCond .ne (12), 3) := by decide +kernel
theorem d_md_move_14 : decode m_md_move.2.1 14 = .ok (.aload_n 0, 1) := by decide +kernel
theorem d_md_move_15 : decode m_md_move.2.1 15 = .ok (.iload_n 2, 1) := by decide +kernel
theorem d_md_move_16 : decode m_md_move.2.1 16 = .ok (.iconst 3, 1) := by decide +kernel
theorem d_md_move_17 : decode m_md_move.2.1 17 = .ok (.invokevirtual 145, 3) := by decide +kernel
theorem d_md_move_20 : decode m_md_move.2.1 20 = .ok (.ifCond .eq (9), 3) := by decide +kernel
theorem d_md_move_23 : decode m_md_move.2.1 23 = .ok (.aload_n 0, 1) := by decide +kernel
theorem d_md_move_24 : decode m_md_move.2.1 24 = .ok (.iconst 1, 1) := by decide +kernel
theorem d_md_move_25 : decode m_md_move.2.1 25 = .ok (.invokevirtual 149, 3) := by decide +kernel
theorem d_md_move_28 : decode m_md_move.2.1 28 = .ok (.ireturn, 1) := by decide +kernel
theorem d_md_move_29 : decode m_md_move.2.1 29 = .ok (.aload_n 0, 1) := by decide +kernel
theorem d_md_move_30 : decode m_md_move.2.1 30 = .ok (.getfield 42, 3) := by decide +kernel
theorem d_md_move_33 : decode m_md_move.2.1 33 = .ok (.iload_n 1, 1) := by decide +kernel
theorem d_md_move_34 : decode m_md_move.2.1 34 = .ok (.baload, 1) := by decide +kernel
theorem d_md_move_35 : decode m_md_move.2.1 35 = .ok (.ifCond .eq (12), 3) := by decide +kernel
theorem d_md_move_38 : decode m_md_move.2.1 38 = .ok (.aload_n 0, 1) := by decide +kernel
theorem d_md_move_39 : decode m_md_move.2.1 39 = .ok (.getfield 31, 3) := by decide +kernel
theorem d_md_move_42 : decode m_md_move.2.1 42 = .ok (.iload_n 2, 1) := by decide +kernel
theorem d_md_move_43 : decode m_md_move.2.1 43 = .ok (.baload, 1) := by decide +kernel
theorem d_md_move_44 : decode m_md_move.2.1 44 = .ok (.ifCond .eq (9), 3) := by decide +kernel
theorem d_md_move_47 : decode m_md_move.2.1 47 = .ok (.aload_n 0, 1) := by decide +kernel
theorem d_md_move_48 : decode m_md_move.2.1 48 = .ok (.iconst 2, 1) := by decide +kernel
theorem d_md_move_49 : decode m_md_move.2.1 49 = .ok (.invokevirtual 149, 3) := by decide +kernel
theorem d_md_move_52 : decode m_md_move.2.1 52 = .ok (.ireturn, 1) := by decide +kernel
theorem d_md_move_53 : decode m_md_move.2.1 53 = .ok (.aload_n 0, 1) := by decide +kernel
theorem d_md_move_54 : decode m_md_move.2.1 54 = .ok (.getfield 48, 3) := by decide +kernel
theorem d_md_move_57 : decode m_md_move.2.1 57 = .ok (.iload_n 1, 1) := by decide +kernel
theorem d_md_move_58 : decode m_md_move.2.1 58 = .ok (.iaload, 1) := by decide +kernel
theorem d_md_move_59 : decode m_md_move.2.1 59 = .ok (.istore_n 3, 1) := by decide +kernel
theorem d_md_move_60 : decode m_md_move.2.1 60 = .ok (.aload_n 0, 1) := by decide +kernel
theorem d_md_move_61 : decode m_md_move.2.1 61 = .ok (.getfield 48, 3) := by decide +kernel
theorem d_md_move_64 : decode m_md_move.2.1 64 = .ok (.iload_n 1, 1) := by decide +kernel
theorem d_md_move_65 : decode m_md_move.2.1 65 = .ok (.iload_n 2, 1) := by decide +kernel
theorem d_md_move_66 : decode m_md_move.2.1 66 = .ok (.iastore, 1) := by decide +kernel
theorem d_md_move_67 : decode m_md_move.2.1 67 = .ok (.aload_n 0, 1) := by decide +kernel
theorem d_md_move_68 : decode m_md_move.2.1 68 = .ok (.iload_n 1, 1) := by decide +kernel
theorem d_md_move_69 : decode m_md_move.2.1 69 = .ok (.invokevirtual 141, 3) := by decide +kernel
theorem d_md_move_72 : decode m_md_move.2.1 72 = .ok (.aload_n 0, 1) := by decide +kernel
theorem d_md_move_73 : decode m_md_move.2.1 73 = .ok (.iload_n 3, 1) := by decide +kernel
theorem d_md_move_74 : decode m_md_move.2.1 74 = .ok (.invokevirtual 155, 3) := by decide +kernel
theorem d_md_move_77 : decode m_md_move.2.1 77 = .ok (.ireturn, 1) := by decide +kernel
theorem d_md_create_0 : decode m_md_create.2.1 0 = .ok (.aload_n 0, 1) := by decide +kernel
theorem d_md_create_1 : decode m_md_create.2.1 1 = .ok (.iconst 0, 1) := by decide +kernel
theorem d_md_create_2 : decode m_md_create.2.1 2 = .ok (.putfield 84, 3) := by decide +kernel
theorem d_md_create_5 : decode m_md_create.2.1 5 = .ok (.aload_n 0, 1) := by decide +kernel
theorem d_md_create_6 : decode m_md_create.2.1 6 = .ok (.iload_n 1, 1) := by decide +kernel
theorem d_md_create_7 : decode m_md_create.2.1 7 = .ok (.iconst 4, 1) := by decide +kernel
theorem d_md_create_8 : decode m_md_create.2.1 8 = .ok (.invokevirtual 145, 3) := by decide +kernel
theorem d_md_create_11 : decode m_md_create.2.1 11 = .ok (.ifCond .ne (46), 3) := by decide +kernel
theorem d_md_create_14 : decode m_md_create.2.1 14 = .ok (.aload_n 0, 1) := by decide +kernel
theorem d_md_create_15 : decode m_md_create.2.1 15 = .ok (.iload 4, 2) := by decide +kernel
theorem d_md_create_17 : decode m_md_create.2.1 17 = .ok (.iconst 4, 1) := by decide +kernel
theorem d_md_create_18 : decode m_md_create.2.1 18 = .ok (.invokevirtual 145, 3) := by decide +kernel
theorem d_md_create_21 : decode m_md_create.2.1 21 = .ok (.ifCond .ne (36), 3) := by decide +kernel
theorem d_md_create_24 : decode m_md_create.2.1 24 = .ok (.iload_n 2, 1) := by decide +kernel
theorem d_md_create_25 : decode m_md_create.2.1 25 = .ok (.iload 4, 2) := by decide +kernel
theorem d_md_create_27 : decode m_md_create.2.1 27 = .ok (.iconst 2, 1) := by decide +kernel
theorem d_md_create_28 : decode m_md_create.2.1 28 = .ok (.if_icmp .ge (7), 3) := by decide +kernel
theorem d_md_create_31 : decode m_md_create.2.1 31 = .ok (.iconst 1, 1) := by decide +kernel
theorem d_md_create_32 : decode m_md_create.2.1 32 = .ok (.goto 4, 3) := by decide +kernel
theorem d_md_create_35 : decode m_md_create.2.1 35 = .ok (.iconst 0, 1) := by decide +kernel
theorem d_md_create_36 : decode m_md_create.2.1 36 = .ok (.if_icmp .lt (21), 3) := by decide +kernel
theorem d_md_create_39 : decode m_md_create.2.1 39 = .ok (.iload_n 2, 1) := by decide +kernel
theorem d_md_create_40 : decode m_md_create.2.1 40 = .ok (.iload 4, 2) := by decide +kernel
theorem d_md_create_42 : decode m_md_create.2.1 42 = .ok (.iconst 2, 1) := by decide +kernel
theorem d_md_create_43 : decode m_md_create.2.1 43 = .ok (.if_icmp .ge (9), 3) := by decide +kernel
theorem d_md_create_46 : decode m_md_create.2.1 46 = .ok (.sipush 258, 3) := by decide +kernel
theorem d_md_create_49 : decode m_md_create.2.1 49 = .ok (.goto 5, 3) := by decide +kernel
theorem d_md_create_52 : decode m_md_create.2.1 52 = .ok (.bipush 42, 2) := by decide +kernel
theorem d_md_create_54 : decode m_md_create.2.1 54 = .ok (.if_icmp .le (9), 3) := by decide +kernel
theorem d_md_create_57 : decode m_md_create.2.1 57 = .ok (.aload_n 0, 1) := by decide +kernel
theorem d_md_create_58 : decode m_md_create.2.1 58 = .ok (.iconst 1, 1) := by decide +kernel
theorem d_md_create_59 : decode m_md_create.2.1 59 = .ok (.invokevirtual 149, 3) := by decide +kernel
theorem d_md_create_62 : decode m_md_create.2.1 62 = .ok (.ireturn, 1) := by decide +kernel
theorem d_md_create_63 : decode m_md_create.2.1 63 = .ok (.aload_n 0, 1) := by decide +kernel
theorem d_md_create_64 : decode m_md_create.2.1 64 = .ok (.iload_n 1, 1) := by decide +kernel
theorem d_md_create_65 : decode m_md_create.2.1 65 = .ok (.invokevirtual 158, 3) := by decide +kernel
theorem d_md_create_68 : decode m_md_create.2.1 68 = .ok (.ifCond .ne (9), 3) := by decide +kernel
theorem d_md_create_71 : decode m_md_create.2.1 71 = .ok (.aload_n 0, 1) := by decide +kernel
theorem d_md_create_72 : decode m_md_create.2.1 72 = .ok (.iconst 2, 1) := by decide +kernel
theorem d_md_create_73 : decode m_md_create.2.1 73 = .ok (.invokevirtual 149, 3) := by decide +kernel
theorem d_md_create_76 : decode m_md_create.2.1 76 = .ok (.ireturn, 1) := by decide +kernel
theorem d_md_create_77 : decode m_md_create.2.1 77 = .ok (.aload_n 0, 1) := by decide +kernel
theorem d_md_create_78 : decode m_md_create.2.1 78 = .ok (.invokevirtual 128, 3) := by decide +kernel
theorem d_md_create_81 : decode m_md_create.2.1 81 = .ok (.iload 4, 2) := by decide +kernel
theorem d_md_create_83 : decode m_md_create.2.1 83 = .ok (.iconst 2, 1) := by decide +kernel
theorem d_md_create_84 : decode m_md_create.2.1 84 = .ok (.if_icmp .ge (11), 3) := by decide +kernel
theorem d_md_create_87 : decode m_md_create.2.1 87 = .ok (.aload_n 0, 1) := by decide +kernel
theorem d_md_create_88 : decode m_md_create.2.1 88 = .ok (.iload_n 2, 1) := by decide +kernel
theorem d_md_create_89 : decode m_md_create.2.1 89 = .ok (.invokevirtual 87, 3) := by decide +kernel
theorem d_md_create_92 : decode m_md_create.2.1 92 = .ok (.goto 4, 3) := by decide +kernel
theorem d_md_create_95 : decode m_md_create.2.1 95 = .ok (.iload_n 2, 1) := by decide +kernel
theorem d_md_create_96 : decode m_md_create.2.1 96 = .ok (.istore 5, 2) := by decide +kernel
theorem d_md_create_98 : decode m_md_create.2.1 98 = .ok (.aload_n 0, 1) := by decide +kernel
theorem d_md_create_99 : decode m_md_create.2.1 99 = .ok (.getfield 69, 3) := by decide +kernel
theorem d_md_create_102 : decode m_md_create.2.1 102 = .ok (.iload 5, 2) := by decide +kernel
theorem d_md_create_104 : decode m_md_create.2.1 104 = .ok (.baload, 1) := by decide +kernel
theorem d_md_create_105 : decode m_md_create.2.1 105 = .ok (.ifCond .ne (9), 3) := by decide +kernel
theorem d_md_create_108 : decode m_md_create.2.1 108 = .ok (.aload_n 0, 1) := by decide +kernel
theorem d_md_create_109 : decode m_md_create.2.1 109 = .ok (.iconst 3, 1) := by decide +kernel
theorem d_md_create_110 : decode m_md_create.2.1 110 = .ok (.invokevirtual 149, 3) := by decide +kernel
theorem d_md_create_113 : decode m_md_create.2.1 113 = .ok (.ireturn, 1) := by decide +kernel
theorem d_md_create_114 : decode m_md_create.2.1 114 = .ok (.aload_n 0, 1) := by decide +kernel
theorem d_md_create_115 : decode m_md_create.2.1 115 = .ok (.getfield 81, 3) := by decide +kernel
theorem d_md_create_118 : decode m_md_create.2.1 118 = .ok (.iload 5, 2) := by decide +kernel
theorem d_md_create_120 : decode m_md_create.2.1 120 = .ok (.iaload, 1) := by decide +kernel
theorem d_md_create_121 : decode m_md_create.2.1 121 = .ok (.ifCond .ge (21), 3) := by decide +kernel
theorem d_md_create_124 : decode m_md_create.2.1 124 = .ok (.iload 4, 2) := by decide +kernel
theorem d_md_create_126 : decode m_md_create.2.1 126 = .ok (.iconst 1, 1) := by decide +kernel
theorem d_md_create_127 : decode m_md_create.2.1 127 = .ok (.if_icmp .le (21), 3) := by decide +kernel
theorem d_md_create_130 : decode m_md_create.2.1 130 = .ok (.aload_n 0, 1) := by decide +kernel
theorem d_md_create_131 : decode m_md_create.2.1 131 = .ok (.getfield 78, 3) := by decide +kernel
theorem d_md_create_134 : decode m_md_create.2.1 134 = .ok (.iload 5, 2) := by decide +kernel
theorem d_md_create_136 : decode m_md_create.2.1 136 = .ok (.iaload, 1) := by decide +kernel
theorem d_md_create_137 : decode m_md_create.2.1 137 = .ok (.bipush 6, 2) := by decide +kernel
theorem d_md_create_139 : decode m_md_create.2.1 139 = .ok (.if_icmp .ne (9), 3) := by decide +kernel
theorem d_md_create_142 : decode m_md_create.2.1 142 = .ok (.aload_n 0, 1) := by decide +kernel
theorem d_md_create_143 : decode m_md_create.2.1 143 = .ok (.iconst 4, 1) := by decide +kernel
theorem d_md_create_144 : decode m_md_create.2.1 144 = .ok (.invokevirtual 149, 3) := by decide +kernel
theorem d_md_create_147 : decode m_md_create.2.1 147 = .ok (.ireturn, 1) := by decide +kernel
theorem d_md_create_148 : decode m_md_create.2.1 148 = .ok (.iload 4, 2) := by decide +kernel
theorem d_md_create_150 : decode m_md_create.2.1 150 = .ok (.iconst 2, 1) := by decide +kernel
theorem d_md_create_151 : decode m_md_create.2.1 151 = .ok (.if_icmp .ge (7), 3) := by decide +kernel
theorem d_md_create_154 : decode m_md_create.2.1 154 = .ok (.iload_n 2, 1) := by decide +kernel
theorem d_md_create_155 : decode m_md_create.2.1 155 = .ok (.goto 17, 3) := by decide +kernel
theorem d_md_create_158 : decode m_md_create.2.1 158 = .ok (.bipush 6, 2) := by decide +kernel
theorem d_md_create_160 : decode m_md_create.2.1 160 = .ok (.iload_n 2, 1) := by decide +kernel
theorem d_md_create_161 : decode m_md_create.2.1 161 = .ok (.imul, 1) := by decide +kernel
theorem d_md_create_162 : decode m_md_create.2.1 162 = .ok (.aload_n 0, 1) := by decide +kernel
theorem d_md_create_163 : decode m_md_create.2.1 163 = .ok (.getfield 78, 3) := by decide +kernel
theorem d_md_create_166 : decode m_md_create.2.1 166 = .ok (.iload 5, 2) := by decide +kernel
theorem d_md_create_168 : decode m_md_create.2.1 168 = .ok (.iaload, 1) := by decide +kernel
theorem d_md_create_169 : decode m_md_create.2.1 169 = .ok (.iadd, 1) := by decide +kernel
theorem d_md_create_170 : decode m_md_create.2.1 170 = .ok (.iconst 1, 1) := by decide +kernel
theorem d_md_create_171 : decode m_md_create.2.1 171 = .ok (.iadd, 1) := by decide +kernel
theorem d_md_create_172 : decode m_md_create.2.1 172 = .ok (.istore 6, 2) := by decide +kernel
theorem d_md_create_174 : decode m_md_create.2.1 174 = .ok (.aload_n 0, 1) := by decide +kernel
theorem d_md_create_175 : decode m_md_create.2.1 175 = .ok (.getfield 69, 3) := by decide +kernel
theorem d_md_create_178 : decode m_md_create.2.1 178 = .ok (.iload 6, 2) := by decide +kernel
theorem d_md_create_180 : decode m_md_create.2.1 180 = .ok (.baload, 1) := by decide +kernel
theorem d_md_create_181 : decode m_md_create.2.1 181 = .ok (.ifCond .eq (9), 3) := by decide +kernel
theorem d_md_create_184 : decode m_md_create.2.1 184 = .ok (.aload_n 0, 1) := by decide +kernel
theorem d_md_create_185 : decode m_md_create.2.1 185 = .ok (.iconst 5, 1) := by decide +kernel
theorem d_md_create_186 : decode m_md_create.2.1 186 = .ok (.invokevirtual 149, 3) := by decide +kernel
theorem d_md_create_189 : decode m_md_create.2.1 189 = .ok (.ireturn, 1) := by decide +kernel
theorem d_md_create_190 : decode m_md_create.2.1 190 = .ok (.aload_n 0, 1) := by decide +kernel
theorem d_md_create_191 : decode m_md_create.2.1 191 = .ok (.getfield 22, 3) := by decide +kernel
theorem d_md_create_194 : decode m_md_create.2.1 194 = .ok (.aload_n 0, 1) := by decide +kernel
theorem d_md_create_195 : decode m_md_create.2.1 195 = .ok (.getfield 105, 3) := by decide +kernel
theorem d_md_create_198 : decode m_md_create.2.1 198 = .ok (.iaload, 1) := by decide +kernel
theorem d_md_create_199 : decode m_md_create.2.1 199 = .ok (.bipush 60, 2) := by decide +kernel
theorem d_md_create_201 : decode m_md_create.2.1 201 = .ok (.if_icmp .lt (9), 3) := by decide +kernel
theorem d_md_create_204 : decode m_md_create.2.1 204 = .ok (.aload_n 0, 1) := by decide +kernel
theorem d_md_create_205 : decode m_md_create.2.1 205 = .ok (.iconst 2, 1) := by decide +kernel
theorem d_md_create_206 : decode m_md_create.2.1 206 = .ok (.invokevirtual 149, 3) := by decide +kernel
theorem d_md_create_209 : decode m_md_create.2.1 209 = .ok (.ireturn, 1) := by decide +kernel
theorem d_md_create_210 : decode m_md_create.2.1 210 = .ok (.aload_n 0, 1) := by decide +kernel
theorem d_md_create_211 : decode m_md_create.2.1 211 = .ok (.iload 4, 2) := by decide +kernel
theorem d_md_create_213 : decode m_md_create.2.1 213 = .ok (.iconst 2, 1) := by decide +kernel
theorem d_md_create_214 : decode m_md_create.2.1 214 = .ok (.if_icmp .ge (7), 3) := by decide +kernel
theorem d_md_create_217 : decode m_md_create.2.1 217 = .ok (.iconst 0, 1) := by decide +kernel
theorem d_md_create_218 : decode m_md_create.2.1 218 = .ok (.goto 4, 3) := by decide +kernel
theorem d_md_create_221 : decode m_md_create.2.1 221 = .ok (.iconst 1, 1) := by decide +kernel
theorem d_md_create_222 : decode m_md_create.2.1 222 = .ok (.iload 6, 2) := by decide +kernel
theorem d_md_create_224 : decode m_md_create.2.1 224 = .ok (.iload_n 3, 1) := by decide +kernel
theorem d_md_create_225 : decode m_md_create.2.1 225 = .ok (.iload 4, 2) := by decide +kernel
theorem d_md_create_227 : decode m_md_create.2.1 227 = .ok (.iconst 2, 1) := by decide +kernel
theorem d_md_create_228 : decode m_md_create.2.1 228 = .ok (.irem, 1) := by decide +kernel
theorem d_md_create_229 : decode m_md_create.2.1 229 = .ok (.iconst 1, 1) := by decide +kernel
theorem d_md_create_230 : decode m_md_create.2.1 230 = .ok (.if_icmp .ne (7), 3) := by decide +kernel
theorem d_md_create_233 : decode m_md_create.2.1 233 = .ok (.iload_n 1, 1) := by decide +kernel
theorem d_md_create_234 : decode m_md_create.2.1 234 = .ok (.goto 4, 3) := by decide +kernel
theorem d_md_create_237 : decode m_md_create.2.1 237 = .ok (.iconst (-1), 1) := by decide +kernel
theorem d_md_create_238 : decode m_md_create.2.1 238 = .ok (.invokevirtual 134, 3) := by decide +kernel
theorem d_md_create_241 : decode m_md_create.2.1 241 = .ok (.aload_n 0, 1) := by decide +kernel
theorem d_md_create_242 : decode m_md_create.2.1 242 = .ok (.invokevirtual 118, 3) := by decide +kernel
theorem d_md_create_245 : decode m_md_create.2.1 245 = .ok (.ifCond .eq (12), 3) := by decide +kernel
theorem d_md_create_248 : decode m_md_create.2.1 248 = .ok (.aload_n 0, 1) := by decide +kernel
theorem d_md_create_249 : decode m_md_create.2.1 249 = .ok (.iload 6, 2) := by decide +kernel
theorem d_md_create_251 : decode m_md_create.2.1 251 = .ok (.invokevirtual 155, 3) := by decide +kernel
theorem d_md_create_254 : decode m_md_create.2.1 254 = .ok (.goto 8, 3) := by decide +kernel
theorem d_md_create_257 : decode m_md_create.2.1 257 = .ok (.aload_n 0, 1) := by decide +kernel
theorem d_md_create_258 : decode m_md_create.2.1 258 = .ok (.iconst 2, 1) := by decide +kernel
theorem d_md_create_259 : decode m_md_create.2.1 259 = .ok (.invokevirtual 149, 3) := by decide +kernel
theorem d_md_create_262 : decode m_md_create.2.1 262 = .ok (.ireturn, 1) := by decide +kernel
theorem d_md_set_0 : decode m_md_set.2.1 0 = .ok (.aload_n 0, 1) := by decide +kernel
theorem d_md_set_1 : decode m_md_set.2.1 1 = .ok (.iconst 0, 1) := by decide +kernel
theorem d_md_set_2 : decode m_md_set.2.1 2 = .ok (.putfield 84, 3) := by decide +kernel
theorem d_md_set_5 : decode m_md_set.2.1 5 = .ok (.aload_n 0, 1) := by decide +kernel
theorem d_md_set_6 : decode m_md_set.2.1 6 = .ok (.iload_n 1, 1) := by decide +kernel
theorem d_md_set_7 : decode m_md_set.2.1 7 = .ok (.iconst 4, 1) := by decide +kernel
theorem d_md_set_8 : decode m_md_set.2.1 8 = .ok (.invokevirtual 145, 3) := by decide +kernel
theorem d_md_set_11 : decode m_md_set.2.1 11 = .ok (.ifCond .ne (19), 3) := by decide +kernel
theorem d_md_set_14 : decode m_md_set.2.1 14 = .ok (.aload_n 0, 1) := by decide +kernel
theorem d_md_set_15 : decode m_md_set.2.1 15 = .ok (.iload_n 2, 1) := by decide +kernel
theorem d_md_set_16 : decode m_md_set.2.1 16 = .ok (.sipush 259, 3) := by decide +kernel
theorem d_md_set_19 : decode m_md_set.2.1 19 = .ok (.invokevirtual 145, 3) := by decide +kernel
theorem d_md_set_22 : decode m_md_set.2.1 22 = .ok (.ifCond .ne (8), 3) := by decide +kernel
theorem d_md_set_25 : decode m_md_set.2.1 25 = .ok (.iload_n 3, 1) := by decide +kernel
theorem d_md_set_26 : decode m_md_set.2.1 26 = .ok (.iconst (-1), 1) := by decide +kernel
theorem d_md_set_27 : decode m_md_set.2.1 27 = .ok (.if_icmp .ge (9), 3) := by decide +kernel
theorem d_md_set_30 : decode m_md_set.2.1 30 = .ok (.aload_n 0, 1) := by decide +kernel
theorem d_md_set_31 : decode m_md_set.2.1 31 = .ok (.iconst 1, 1) := by decide +kernel
theorem d_md_set_32 : decode m_md_set.2.1 32 = .ok (.invokevirtual 149, 3) := by decide +kernel
theorem d_md_set_35 : decode m_md_set.2.1 35 = .ok (.ireturn, 1) := by decide +kernel
theorem d_md_set_36 : decode m_md_set.2.1 36 = .ok (.aload_n 0, 1) := by decide +kernel
theorem d_md_set_37 : decode m_md_set.2.1 37 = .ok (.iload_n 1, 1) := by decide +kernel
theorem d_md_set_38 : decode m_md_set.2.1 38 = .ok (.invokevirtual 158, 3) := by decide +kernel
theorem d_md_set_41 : decode m_md_set.2.1 41 = .ok (.ifCond .ne (9), 3) := by decide +kernel
theorem d_md_set_44 : decode m_md_set.2.1 44 = .ok (.aload_n 0, 1) := by decide +kernel
theorem d_md_set_45 : decode m_md_set.2.1 45 = .ok (.iconst 2, 1) := by decide +kernel
theorem d_md_set_46 : decode m_md_set.2.1 46 = .ok (.invokevirtual 149, 3) := by decide +kernel
theorem d_md_set_49 : decode m_md_set.2.1 49 = .ok (.ireturn, 1) := by decide +kernel
theorem d_md_set_50 : decode m_md_set.2.1 50 = .ok (.aload_n 0, 1) := by decide +kernel
theorem d_md_set_51 : decode m_md_set.2.1 51 = .ok (.invokevirtual 128, 3) := by decide +kernel
theorem d_md_set_54 : decode m_md_set.2.1 54 = .ok (.aload_n 0, 1) := by decide +kernel
theorem d_md_set_55 : decode m_md_set.2.1 55 = .ok (.getfield 69, 3) := by decide +kernel
theorem d_md_set_58 : decode m_md_set.2.1 58 = .ok (.iload_n 2, 1) := by decide +kernel
theorem d_md_set_59 : decode m_md_set.2.1 59 = .ok (.baload, 1) := by decide +kernel
theorem d_md_set_60 : decode m_md_set.2.1 60 = .ok (.ifCond .ne (9), 3) := by decide +kernel
theorem d_md_set_63 : decode m_md_set.2.1 63 = .ok (.aload_n 0, 1) := by decide +kernel
theorem d_md_set_64 : decode m_md_set.2.1 64 = .ok (.iconst 3, 1) := by decide +kernel
theorem d_md_set_65 : decode m_md_set.2.1 65 = .ok (.invokevirtual 149, 3) := by decide +kernel
theorem d_md_set_68 : decode m_md_set.2.1 68 = .ok (.ireturn, 1) := by decide +kernel
theorem d_md_set_69 : decode m_md_set.2.1 69 = .ok (.aload_n 0, 1) := by decide +kernel
theorem d_md_set_70 : decode m_md_set.2.1 70 = .ok (.getfield 75, 3) := by decide +kernel
theorem d_md_set_73 : decode m_md_set.2.1 73 = .ok (.iload_n 2, 1) := by decide +kernel
theorem d_md_set_74 : decode m_md_set.2.1 74 = .ok (.iaload, 1) := by decide +kernel
theorem d_md_set_75 : decode m_md_set.2.1 75 = .ok (.istore 5, 2) := by decide +kernel
theorem d_md_set_77 : decode m_md_set.2.1 77 = .ok (.iload_n 3, 1) := by decide +kernel
theorem d_md_set_78 : decode m_md_set.2.1 78 = .ok (.iconst (-1), 1) := by decide +kernel
theorem d_md_set_79 : decode m_md_set.2.1 79 = .ok (.if_icmp .eq (16), 3) := by decide +kernel
theorem d_md_set_82 : decode m_md_set.2.1 82 = .ok (.iload_n 3, 1) := by decide +kernel
theorem d_md_set_83 : decode m_md_set.2.1 83 = .ok (.iload 5, 2) := by decide +kernel
theorem d_md_set_85 : decode m_md_set.2.1 85 = .ok (.if_icmp .eq (10), 3) := by decide +kernel
theorem d_md_set_88 : decode m_md_set.2.1 88 = .ok (.aload_n 0, 1) := by decide +kernel
theorem d_md_set_89 : decode m_md_set.2.1 89 = .ok (.bipush (-2), 2) := by decide +kernel
theorem d_md_set_91 : decode m_md_set.2.1 91 = .ok (.invokevirtual 155, 3) := by decide +kernel
theorem d_md_set_94 : decode m_md_set.2.1 94 = .ok (.ireturn, 1) := by decide +kernel
theorem d_md_set_95 : decode m_md_set.2.1 95 = .ok (.aload_n 0, 1) := by decide +kernel
theorem d_md_set_96 : decode m_md_set.2.1 96 = .ok (.getfield 22, 3) := by decide +kernel
theorem d_md_set_99 : decode m_md_set.2.1 99 = .ok (.aload_n 0, 1) := by decide +kernel
theorem d_md_set_100 : decode m_md_set.2.1 100 = .ok (.getfield 105, 3) := by decide +kernel
theorem d_md_set_103 : decode m_md_set.2.1 103 = .ok (.iaload, 1) := by decide +kernel
theorem d_md_set_104 : decode m_md_set.2.1 104 = .ok (.bipush 60, 2) := by decide +kernel
theorem d_md_set_106 : decode m_md_set.2.1 106 = .ok (.if_icmp .lt (9), 3) := by decide +kernel
theorem d_md_set_109 : decode m_md_set.2.1 109 = .ok (.aload_n 0, 1) := by decide +kernel
theorem d_md_set_110 : decode m_md_set.2.1 110 = .ok (.iconst 2, 1) := by decide +kernel
theorem d_md_set_111 : decode m_md_set.2.1 111 = .ok (.invokevirtual 149, 3) := by decide +kernel
theorem d_md_set_114 : decode m_md_set.2.1 114 = .ok (.ireturn, 1) := by decide +kernel
theorem d_md_set_115 : decode m_md_set.2.1 115 = .ok (.aload_n 0, 1) := by decide +kernel
theorem d_md_set_116 : decode m_md_set.2.1 116 = .ok (.iconst 2, 1) := by decide +kernel
theorem d_md_set_117 : decode m_md_set.2.1 117 = .ok (.iload_n 2, 1) := by decide +kernel
theorem d_md_set_118 : decode m_md_set.2.1 118 = .ok (.iload 4, 2) := by decide +kernel
theorem d_md_set_120 : decode m_md_set.2.1 120 = .ok (.iconst (-1), 1) := by decide +kernel
theorem d_md_set_121 : decode m_md_set.2.1 121 = .ok (.invokevirtual 134, 3) := by decide +kernel
theorem d_md_set_124 : decode m_md_set.2.1 124 = .ok (.aload_n 0, 1) := by decide +kernel
theorem d_md_set_125 : decode m_md_set.2.1 125 = .ok (.invokevirtual 118, 3) := by decide +kernel
theorem d_md_set_128 : decode m_md_set.2.1 128 = .ok (.ifCond .eq (14), 3) := by decide +kernel
theorem d_md_set_131 : decode m_md_set.2.1 131 = .ok (.aload_n 0, 1) := by decide +kernel
theorem d_md_set_132 : decode m_md_set.2.1 132 = .ok (.iload 5, 2) := by decide +kernel
theorem d_md_set_134 : decode m_md_set.2.1 134 = .ok (.iconst 1, 1) := by decide +kernel
theorem d_md_set_135 : decode m_md_set.2.1 135 = .ok (.iadd, 1) := by decide +kernel
theorem d_md_set_136 : decode m_md_set.2.1 136 = .ok (.invokevirtual 155, 3) := by decide +kernel
theorem d_md_set_139 : decode m_md_set.2.1 139 = .ok (.goto 8, 3) := by decide +kernel
theorem d_md_set_142 : decode m_md_set.2.1 142 = .ok (.aload_n 0, 1) := by decide +kernel
theorem d_md_set_143 : decode m_md_set.2.1 143 = .ok (.iconst 2, 1) := by decide +kernel
theorem d_md_set_144 : decode m_md_set.2.1 144 = .ok (.invokevirtual 149, 3) := by decide +kernel
theorem d_md_set_147 : decode m_md_set.2.1 147 = .ok (.ireturn, 1) := by decide +kernel
theorem d_md_delete_0 : decode m_md_delete.2.1 0 = .ok (.aload_n 0, 1) := by decide +kernel
theorem d_md_delete_1 : decode m_md_delete.2.1 1 = .ok (.iconst 0, 1) := by decide +kernel
theorem d_md_delete_2 : decode m_md_delete.2.1 2 = .ok (.putfield 84, 3) := by decide +kernel
theorem d_md_delete_5 : decode m_md_delete.2.1 5 = .ok (.aload_n 0, 1) := by decide +kernel
theorem d_md_delete_6 : decode m_md_delete.2.1 6 = .ok (.iload_n 1, 1) := by decide +kernel
theorem d_md_delete_7 : decode m_md_delete.2.1 7 = .ok (.iconst 4, 1) := by decide +kernel
theorem d_md_delete_8 : decode m_md_delete.2.1 8 = .ok (.invokevirtual 145, 3) := by decide +kernel
theorem d_md_delete_11 : decode m_md_delete.2.1 11 = .ok (.ifCond .ne (20), 3) := by decide +kernel
theorem d_md_delete_14 : decode m_md_delete.2.1 14 = .ok (.iload_n 2, 1) := by decide +kernel
theorem d_md_delete_15 : decode m_md_delete.2.1 15 = .ok (.iconst 1, 1) := by decide +kernel
theorem d_md_delete_16 : decode m_md_delete.2.1 16 = .ok (.if_icmp .lt (15), 3) := by decide +kernel
theorem d_md_delete_19 : decode m_md_delete.2.1 19 = .ok (.iload_n 2, 1) := by decide +kernel
theorem d_md_delete_20 : decode m_md_delete.2.1 20 = .ok (.sipush 258, 3) := by decide +kernel
theorem d_md_delete_23 : decode m_md_delete.2.1 23 = .ok (.if_icmp .gt (8), 3) := by decide +kernel
theorem d_md_delete_26 : decode m_md_delete.2.1 26 = .ok (.iload_n 3, 1) := by decide +kernel
theorem d_md_delete_27 : decode m_md_delete.2.1 27 = .ok (.iconst (-1), 1) := by decide +kernel
theorem d_md_delete_28 : decode m_md_delete.2.1 28 = .ok (.if_icmp .ge (9), 3) := by decide +kernel
theorem d_md_delete_31 : decode m_md_delete.2.1 31 = .ok (.aload_n 0, 1) := by decide +kernel
theorem d_md_delete_32 : decode m_md_delete.2.1 32 = .ok (.iconst 1, 1) := by decide +kernel
theorem d_md_delete_33 : decode m_md_delete.2.1 33 = .ok (.invokevirtual 149, 3) := by decide +kernel
theorem d_md_delete_36 : decode m_md_delete.2.1 36 = .ok (.ireturn, 1) := by decide +kernel
theorem d_md_delete_37 : decode m_md_delete.2.1 37 = .ok (.aload_n 0, 1) := by decide +kernel
theorem d_md_delete_38 : decode m_md_delete.2.1 38 = .ok (.iload_n 1, 1) := by decide +kernel
theorem d_md_delete_39 : decode m_md_delete.2.1 39 = .ok (.invokevirtual 158, 3) := by decide +kernel
theorem d_md_delete_42 : decode m_md_delete.2.1 42 = .ok (.ifCond .ne (9), 3) := by decide +kernel
theorem d_md_delete_45 : decode m_md_delete.2.1 45 = .ok (.aload_n 0, 1) := by decide +kernel
theorem d_md_delete_46 : decode m_md_delete.2.1 46 = .ok (.iconst 2, 1) := by decide +kernel
theorem d_md_delete_47 : decode m_md_delete.2.1 47 = .ok (.invokevirtual 149, 3) := by decide +kernel
theorem d_md_delete_50 : decode m_md_delete.2.1 50 = .ok (.ireturn, 1) := by decide +kernel
theorem d_md_delete_51 : decode m_md_delete.2.1 51 = .ok (.aload_n 0, 1) := by decide +kernel
theorem d_md_delete_52 : decode m_md_delete.2.1 52 = .ok (.invokevirtual 128, 3) := by decide +kernel
theorem d_md_delete_55 : decode m_md_delete.2.1 55 = .ok (.aload_n 0, 1) := by decide +kernel
theorem d_md_delete_56 : decode m_md_delete.2.1 56 = .ok (.getfield 69, 3) := by decide +kernel
theorem d_md_delete_59 : decode m_md_delete.2.1 59 = .ok (.iload_n 2, 1) := by decide +kernel
theorem d_md_delete_60 : decode m_md_delete.2.1 60 = .ok (.baload, 1) := by decide +kernel
theorem d_md_delete_61 : decode m_md_delete.2.1 61 = .ok (.ifCond .ne (9), 3) := by decide +kernel
theorem d_md_delete_64 : decode m_md_delete.2.1 64 = .ok (.aload_n 0, 1) := by decide +kernel
theorem d_md_delete_65 : decode m_md_delete.2.1 65 = .ok (.iconst 3, 1) := by decide +kernel
theorem d_md_delete_66 : decode m_md_delete.2.1 66 = .ok (.invokevirtual 149, 3) := by decide +kernel
theorem d_md_delete_69 : decode m_md_delete.2.1 69 = .ok (.ireturn, 1) := by decide +kernel
theorem d_md_delete_70 : decode m_md_delete.2.1 70 = .ok (.aload_n 0, 1) := by decide +kernel
theorem d_md_delete_71 : decode m_md_delete.2.1 71 = .ok (.getfield 75, 3) := by decide +kernel
theorem d_md_delete_74 : decode m_md_delete.2.1 74 = .ok (.iload_n 2, 1) := by decide +kernel
theorem d_md_delete_75 : decode m_md_delete.2.1 75 = .ok (.iaload, 1) := by decide +kernel
theorem d_md_delete_76 : decode m_md_delete.2.1 76 = .ok (.istore 4, 2) := by decide +kernel
theorem d_md_delete_78 : decode m_md_delete.2.1 78 = .ok (.iload_n 3, 1) := by decide +kernel
theorem d_md_delete_79 : decode m_md_delete.2.1 79 = .ok (.iconst (-1), 1) := by decide +kernel
theorem d_md_delete_80 : decode m_md_delete.2.1 80 = .ok (.if_icmp .eq (16), 3) := by decide +kernel
theorem d_md_delete_83 : decode m_md_delete.2.1 83 = .ok (.iload_n 3, 1) := by decide +kernel
theorem d_md_delete_84 : decode m_md_delete.2.1 84 = .ok (.iload 4, 2) := by decide +kernel
theorem d_md_delete_86 : decode m_md_delete.2.1 86 = .ok (.if_icmp .eq (10), 3) := by decide +kernel
theorem d_md_delete_89 : decode m_md_delete.2.1 89 = .ok (.aload_n 0, 1) := by decide +kernel
theorem d_md_delete_90 : decode m_md_delete.2.1 90 = .ok (.bipush (-2), 2) := by decide +kernel
theorem d_md_delete_92 : decode m_md_delete.2.1 92 = .ok (.invokevirtual 155, 3) := by decide +kernel
theorem d_md_delete_95 : decode m_md_delete.2.1 95 = .ok (.ireturn, 1) := by decide +kernel
theorem d_md_delete_96 : decode m_md_delete.2.1 96 = .ok (.aload_n 0, 1) := by decide +kernel
theorem d_md_delete_97 : decode m_md_delete.2.1 97 = .ok (.iload_n 2, 1) := by decide +kernel
theorem d_md_delete_98 : decode m_md_delete.2.1 98 = .ok (.invokevirtual 164, 3) := by decide +kernel
theorem d_md_delete_101 : decode m_md_delete.2.1 101 = .ok (.ifCond .eq (9), 3) := by decide +kernel
theorem d_md_delete_104 : decode m_md_delete.2.1 104 = .ok (.aload_n 0, 1) := by decide +kernel
theorem d_md_delete_105 : decode m_md_delete.2.1 105 = .ok (.iconst 4, 1) := by decide +kernel
theorem d_md_delete_106 : decode m_md_delete.2.1 106 = .ok (.invokevirtual 149, 3) := by decide +kernel
theorem d_md_delete_109 : decode m_md_delete.2.1 109 = .ok (.ireturn, 1) := by decide +kernel
theorem d_md_delete_110 : decode m_md_delete.2.1 110 = .ok (.aload_n 0, 1) := by decide +kernel
theorem d_md_delete_111 : decode m_md_delete.2.1 111 = .ok (.getfield 22, 3) := by decide +kernel
theorem d_md_delete_114 : decode m_md_delete.2.1 114 = .ok (.aload_n 0, 1) := by decide +kernel
theorem d_md_delete_115 : decode m_md_delete.2.1 115 = .ok (.getfield 105, 3) := by decide +kernel
theorem d_md_delete_118 : decode m_md_delete.2.1 118 = .ok (.iaload, 1) := by decide +kernel
theorem d_md_delete_119 : decode m_md_delete.2.1 119 = .ok (.bipush 60, 2) := by decide +kernel
theorem d_md_delete_121 : decode m_md_delete.2.1 121 = .ok (.if_icmp .lt (9), 3) := by decide +kernel
theorem d_md_delete_124 : decode m_md_delete.2.1 124 = .ok (.aload_n 0, 1) := by decide +kernel
theorem d_md_delete_125 : decode m_md_delete.2.1 125 = .ok (.iconst 2, 1) := by decide +kernel
theorem d_md_delete_126 : decode m_md_delete.2.1 126 = .ok (.invokevirtual 149, 3) := by decide +kernel
theorem d_md_delete_129 : decode m_md_delete.2.1 129 = .ok (.ireturn, 1) := by decide +kernel
theorem d_md_delete_130 : decode m_md_delete.2.1 130 = .ok (.aload_n 0, 1) := by decide +kernel
theorem d_md_delete_131 : decode m_md_delete.2.1 131 = .ok (.iconst 3, 1) := by decide +kernel
theorem d_md_delete_132 : decode m_md_delete.2.1 132 = .ok (.iload_n 2, 1) := by decide +kernel
theorem d_md_delete_133 : decode m_md_delete.2.1 133 = .ok (.iconst 0, 1) := by decide +kernel
theorem d_md_delete_134 : decode m_md_delete.2.1 134 = .ok (.iconst (-1), 1) := by decide +kernel
theorem d_md_delete_135 : decode m_md_delete.2.1 135 = .ok (.invokevirtual 134, 3) := by decide +kernel
theorem d_md_delete_138 : decode m_md_delete.2.1 138 = .ok (.aload_n 0, 1) := by decide +kernel
theorem d_md_delete_139 : decode m_md_delete.2.1 139 = .ok (.invokevirtual 118, 3) := by decide +kernel
theorem d_md_delete_142 : decode m_md_delete.2.1 142 = .ok (.ifCond .eq (12), 3) := by decide +kernel
theorem d_md_delete_145 : decode m_md_delete.2.1 145 = .ok (.aload_n 0, 1) := by decide +kernel
theorem d_md_delete_146 : decode m_md_delete.2.1 146 = .ok (.iload 4, 2) := by decide +kernel
theorem d_md_delete_148 : decode m_md_delete.2.1 148 = .ok (.invokevirtual 155, 3) := by decide +kernel
theorem d_md_delete_151 : decode m_md_delete.2.1 151 = .ok (.goto 8, 3) := by decide +kernel
theorem d_md_delete_154 : decode m_md_delete.2.1 154 = .ok (.aload_n 0, 1) := by decide +kernel
theorem d_md_delete_155 : decode m_md_delete.2.1 155 = .ok (.iconst 2, 1) := by decide +kernel
theorem d_md_delete_156 : decode m_md_delete.2.1 156 = .ok (.invokevirtual 149, 3) := by decide +kernel
theorem d_md_delete_159 : decode m_md_delete.2.1 159 = .ok (.ireturn, 1) := by decide +kernel
theorem d_md_childrenOf_0 : decode m_md_childrenOf.2.1 0 = .ok (.iconst 0, 1) := by decide +kernel
theorem d_md_childrenOf_1 : decode m_md_childrenOf.2.1 1 = .ok (.istore_n 2, 1) := by decide +kernel
theorem d_md_childrenOf_2 : decode m_md_childrenOf.2.1 2 = .ok (.iconst 0, 1) := by decide +kernel
theorem d_md_childrenOf_3 : decode m_md_childrenOf.2.1 3 = .ok (.istore_n 3, 1) := by decide +kernel
theorem d_md_childrenOf_4 : decode m_md_childrenOf.2.1 4 = .ok (.iload_n 1, 1) := by decide +kernel
theorem d_md_childrenOf_5 : decode m_md_childrenOf.2.1 5 = .ok (.bipush 43, 2) := by decide +kernel
theorem d_md_childrenOf_7 : decode m_md_childrenOf.2.1 7 = .ok (.if_icmp .ge (41), 3) := by decide +kernel
theorem d_md_childrenOf_10 : decode m_md_childrenOf.2.1 10 = .ok (.iload_n 3, 1) := by decide +kernel
theorem d_md_childrenOf_11 : decode m_md_childrenOf.2.1 11 = .ok (.bipush 6, 2) := by decide +kernel
theorem d_md_childrenOf_13 : decode m_md_childrenOf.2.1 13 = .ok (.if_icmp .ge (35), 3) := by decide +kernel
theorem d_md_childrenOf_16 : decode m_md_childrenOf.2.1 16 = .ok (.iload_n 2, 1) := by decide +kernel
theorem d_md_childrenOf_17 : decode m_md_childrenOf.2.1 17 = .ok (.aload_n 0, 1) := by decide +kernel
theorem d_md_childrenOf_18 : decode m_md_childrenOf.2.1 18 = .ok (.getfield 69, 3) := by decide +kernel
theorem d_md_childrenOf_21 : decode m_md_childrenOf.2.1 21 = .ok (.bipush 6, 2) := by decide +kernel
theorem d_md_childrenOf_23 : decode m_md_childrenOf.2.1 23 = .ok (.iload_n 1, 1) := by decide +kernel
theorem d_md_childrenOf_24 : decode m_md_childrenOf.2.1 24 = .ok (.imul, 1) := by decide +kernel
theorem d_md_childrenOf_25 : decode m_md_childrenOf.2.1 25 = .ok (.iload_n 3, 1) := by decide +kernel
theorem d_md_childrenOf_26 : decode m_md_childrenOf.2.1 26 = .ok (.iadd, 1) := by decide +kernel
theorem d_md_childrenOf_27 : decode m_md_childrenOf.2.1 27 = .ok (.iconst 1, 1) := by decide +kernel
theorem d_md_childrenOf_28 : decode m_md_childrenOf.2.1 28 = .ok (.iadd, 1) := by decide +kernel
theorem d_md_childrenOf_29 : decode m_md_childrenOf.2.1 29 = .ok (.baload, 1) := by decide +kernel
theorem d_md_childrenOf_30 : decode m_md_childrenOf.2.1 30 = .ok (.ifCond .eq (9), 3) := by decide +kernel
theorem d_md_childrenOf_33 : decode m_md_childrenOf.2.1 33 = .ok (.iconst 1, 1) := by decide +kernel
theorem d_md_childrenOf_34 : decode m_md_childrenOf.2.1 34 = .ok (.iload_n 3, 1) := by decide +kernel
theorem d_md_childrenOf_35 : decode m_md_childrenOf.2.1 35 = .ok (.ishl, 1) := by decide +kernel
theorem d_md_childrenOf_36 : decode m_md_childrenOf.2.1 36 = .ok (.goto 4, 3) := by decide +kernel
theorem d_md_childrenOf_39 : decode m_md_childrenOf.2.1 39 = .ok (.iconst 0, 1) := by decide +kernel
theorem d_md_childrenOf_40 : decode m_md_childrenOf.2.1 40 = .ok (.ior, 1) := by decide +kernel
theorem d_md_childrenOf_41 : decode m_md_childrenOf.2.1 41 = .ok (.istore_n 2, 1) := by decide +kernel
theorem d_md_childrenOf_42 : decode m_md_childrenOf.2.1 42 = .ok (.iinc 3 1, 3) := by decide +kernel
theorem d_md_childrenOf_45 : decode m_md_childrenOf.2.1 45 = .ok (.goto (-41), 3) := by decide +kernel
theorem d_md_childrenOf_48 : decode m_md_childrenOf.2.1 48 = .ok (.iload_n 2, 1) := by decide +kernel
theorem d_md_childrenOf_49 : decode m_md_childrenOf.2.1 49 = .ok (.ireturn, 1) := by decide +kernel
theorem d_md_get_0 : decode m_md_get.2.1 0 = .ok (.aload_n 0, 1) := by decide +kernel
theorem d_md_get_1 : decode m_md_get.2.1 1 = .ok (.aload_n 0, 1) := by decide +kernel
theorem d_md_get_2 : decode m_md_get.2.1 2 = .ok (.iload_n 1, 1) := by decide +kernel
theorem d_md_get_3 : decode m_md_get.2.1 3 = .ok (.iload_n 2, 1) := by decide +kernel
theorem d_md_get_4 : decode m_md_get.2.1 4 = .ok (.sipush 259, 3) := by decide +kernel
theorem d_md_get_7 : decode m_md_get.2.1 7 = .ok (.invokevirtual 167, 3) := by decide +kernel
theorem d_md_get_10 : decode m_md_get.2.1 10 = .ok (.putfield 84, 3) := by decide +kernel
theorem d_md_get_13 : decode m_md_get.2.1 13 = .ok (.aload_n 0, 1) := by decide +kernel
theorem d_md_get_14 : decode m_md_get.2.1 14 = .ok (.getfield 84, 3) := by decide +kernel
theorem d_md_get_17 : decode m_md_get.2.1 17 = .ok (.ifCond .ne (17), 3) := by decide +kernel
theorem d_md_get_20 : decode m_md_get.2.1 20 = .ok (.aload_n 0, 1) := by decide +kernel
theorem d_md_get_21 : decode m_md_get.2.1 21 = .ok (.getfield 69, 3) := by decide +kernel
theorem d_md_get_24 : decode m_md_get.2.1 24 = .ok (.iload_n 2, 1) := by decide +kernel
theorem d_md_get_25 : decode m_md_get.2.1 25 = .ok (.baload, 1) := by decide +kernel
theorem d_md_get_26 : decode m_md_get.2.1 26 = .ok (.ifCond .ne (8), 3) := by decide +kernel
theorem d_md_get_29 : decode m_md_get.2.1 29 = .ok (.aload_n 0, 1) := by decide +kernel
theorem d_md_get_30 : decode m_md_get.2.1 30 = .ok (.iconst 3, 1) := by decide +kernel
theorem d_md_get_31 : decode m_md_get.2.1 31 = .ok (.putfield 84, 3) := by decide +kernel
theorem d_md_get_34 : decode m_md_get.2.1 34 = .ok (.aload_n 0, 1) := by decide +kernel
theorem d_md_get_35 : decode m_md_get.2.1 35 = .ok (.getfield 84, 3) := by decide +kernel
theorem d_md_get_38 : decode m_md_get.2.1 38 = .ok (.ifCond .le (5), 3) := by decide +kernel
theorem d_md_get_41 : decode m_md_get.2.1 41 = .ok (.iconst 0, 1) := by decide +kernel
theorem d_md_get_42 : decode m_md_get.2.1 42 = .ok (.ireturn, 1) := by decide +kernel
theorem d_md_get_43 : decode m_md_get.2.1 43 = .ok (.aload_n 0, 1) := by decide +kernel
theorem d_md_get_44 : decode m_md_get.2.1 44 = .ok (.getfield 72, 3) := by decide +kernel
theorem d_md_get_47 : decode m_md_get.2.1 47 = .ok (.iload_n 2, 1) := by decide +kernel
theorem d_md_get_48 : decode m_md_get.2.1 48 = .ok (.iaload, 1) := by decide +kernel
theorem d_md_get_49 : decode m_md_get.2.1 49 = .ok (.istore 4, 2) := by decide +kernel
theorem d_md_get_51 : decode m_md_get.2.1 51 = .ok (.iload_n 3, 1) := by decide +kernel
theorem d_md_get_52 : decode m_md_get.2.1 52 = .ok (.ifCond .eq (16), 3) := by decide +kernel
theorem d_md_get_55 : decode m_md_get.2.1 55 = .ok (.aload_n 0, 1) := by decide +kernel
theorem d_md_get_56 : decode m_md_get.2.1 56 = .ok (.getfield 57, 3) := by decide +kernel
theorem d_md_get_59 : decode m_md_get.2.1 59 = .ok (.sipush 259, 3) := by decide +kernel
theorem d_md_get_62 : decode m_md_get.2.1 62 = .ok (.iload_n 1, 1) := by decide +kernel
theorem d_md_get_63 : decode m_md_get.2.1 63 = .ok (.imul, 1) := by decide +kernel
theorem d_md_get_64 : decode m_md_get.2.1 64 = .ok (.iload_n 2, 1) := by decide +kernel
theorem d_md_get_65 : decode m_md_get.2.1 65 = .ok (.iadd, 1) := by decide +kernel
theorem d_md_get_66 : decode m_md_get.2.1 66 = .ok (.iconst 1, 1) := by decide +kernel
theorem d_md_get_67 : decode m_md_get.2.1 67 = .ok (.bastore, 1) := by decide +kernel
theorem d_md_get_68 : decode m_md_get.2.1 68 = .ok (.aload_n 0, 1) := by decide +kernel
theorem d_md_get_69 : decode m_md_get.2.1 69 = .ok (.iload 4, 2) := by decide +kernel
theorem d_md_get_71 : decode m_md_get.2.1 71 = .ok (.invokevirtual 155, 3) := by decide +kernel
theorem d_md_get_74 : decode m_md_get.2.1 74 = .ok (.ireturn, 1) := by decide +kernel
theorem d_md_look_0 : decode m_md_look.2.1 0 = .ok (.aload_n 0, 1) := by decide +kernel
theorem d_md_look_1 : decode m_md_look.2.1 1 = .ok (.iload_n 1, 1) := by decide +kernel
theorem d_md_look_2 : decode m_md_look.2.1 2 = .ok (.iconst 4, 1) := by decide +kernel
theorem d_md_look_3 : decode m_md_look.2.1 3 = .ok (.invokevirtual 145, 3) := by decide +kernel
theorem d_md_look_6 : decode m_md_look.2.1 6 = .ok (.ifCond .ne (12), 3) := by decide +kernel
theorem d_md_look_9 : decode m_md_look.2.1 9 = .ok (.aload_n 0, 1) := by decide +kernel
theorem d_md_look_10 : decode m_md_look.2.1 10 = .ok (.iload_n 2, 1) := by decide +kernel
theorem d_md_look_11 : decode m_md_look.2.1 11 = .ok (.iload_n 3, 1) := by decide +kernel
theorem d_md_look_12 : decode m_md_look.2.1 12 = .ok (.invokevirtual 145, 3) := by decide +kernel
theorem d_md_look_15 : decode m_md_look.2.1 15 = .ok (.ifCond .eq (5), 3) := by decide +kernel
theorem d_md_look_18 : decode m_md_look.2.1 18 = .ok (.iconst 1, 1) := by decide +kernel
theorem d_md_look_19 : decode m_md_look.2.1 19 = .ok (.ireturn, 1) := by decide +kernel
theorem d_md_look_20 : decode m_md_look.2.1 20 = .ok (.aload_n 0, 1) := by decide +kernel
theorem d_md_look_21 : decode m_md_look.2.1 21 = .ok (.iload_n 1, 1) := by decide +kernel
theorem d_md_look_22 : decode m_md_look.2.1 22 = .ok (.invokevirtual 138, 3) := by decide +kernel
theorem d_md_look_25 : decode m_md_look.2.1 25 = .ok (.ifCond .ne (5), 3) := by decide +kernel
theorem d_md_look_28 : decode m_md_look.2.1 28 = .ok (.iconst 2, 1) := by decide +kernel
theorem d_md_look_29 : decode m_md_look.2.1 29 = .ok (.ireturn, 1) := by decide +kernel
theorem d_md_look_30 : decode m_md_look.2.1 30 = .ok (.aload_n 0, 1) := by decide +kernel
theorem d_md_look_31 : decode m_md_look.2.1 31 = .ok (.aload_n 0, 1) := by decide +kernel
theorem d_md_look_32 : decode m_md_look.2.1 32 = .ok (.getfield 48, 3) := by decide +kernel
theorem d_md_look_35 : decode m_md_look.2.1 35 = .ok (.iload_n 1, 1) := by decide +kernel
theorem d_md_look_36 : decode m_md_look.2.1 36 = .ok (.iaload, 1) := by decide +kernel
theorem d_md_look_37 : decode m_md_look.2.1 37 = .ok (.aload_n 0, 1) := by decide +kernel
theorem d_md_look_38 : decode m_md_look.2.1 38 = .ok (.getfield 25, 3) := by decide +kernel
theorem d_md_look_41 : decode m_md_look.2.1 41 = .ok (.aload_n 0, 1) := by decide +kernel
theorem d_md_look_42 : decode m_md_look.2.1 42 = .ok (.getfield 48, 3) := by decide +kernel
theorem d_md_look_45 : decode m_md_look.2.1 45 = .ok (.iload_n 1, 1) := by decide +kernel
theorem d_md_look_46 : decode m_md_look.2.1 46 = .ok (.iaload, 1) := by decide +kernel
theorem d_md_look_47 : decode m_md_look.2.1 47 = .ok (.iaload, 1) := by decide +kernel
theorem d_md_look_48 : decode m_md_look.2.1 48 = .ok (.invokevirtual 122, 3) := by decide +kernel
theorem d_md_look_51 : decode m_md_look.2.1 51 = .ok (.iconst 0, 1) := by decide +kernel
theorem d_md_look_52 : decode m_md_look.2.1 52 = .ok (.ireturn, 1) := by decide +kernel
theorem d_md_exists_0 : decode m_md_exists.2.1 0 = .ok (.aload_n 0, 1) := by decide +kernel
theorem d_md_exists_1 : decode m_md_exists.2.1 1 = .ok (.aload_n 0, 1) := by decide +kernel
theorem d_md_exists_2 : decode m_md_exists.2.1 2 = .ok (.iload_n 1, 1) := by decide +kernel
theorem d_md_exists_3 : decode m_md_exists.2.1 3 = .ok (.iload_n 2, 1) := by decide +kernel
theorem d_md_exists_4 : decode m_md_exists.2.1 4 = .ok (.sipush 259, 3) := by decide +kernel
theorem d_md_exists_7 : decode m_md_exists.2.1 7 = .ok (.invokevirtual 167, 3) := by decide +kernel
theorem d_md_exists_10 : decode m_md_exists.2.1 10 = .ok (.putfield 84, 3) := by decide +kernel
theorem d_md_exists_13 : decode m_md_exists.2.1 13 = .ok (.aload_n 0, 1) := by decide +kernel
theorem d_md_exists_14 : decode m_md_exists.2.1 14 = .ok (.getfield 84, 3) := by decide +kernel
theorem d_md_exists_17 : decode m_md_exists.2.1 17 = .ok (.ifCond .le (5), 3) := by decide +kernel
theorem d_md_exists_20 : decode m_md_exists.2.1 20 = .ok (.iconst 0, 1) := by decide +kernel
theorem d_md_exists_21 : decode m_md_exists.2.1 21 = .ok (.ireturn, 1) := by decide +kernel
theorem d_md_exists_22 : decode m_md_exists.2.1 22 = .ok (.aload_n 0, 1) := by decide +kernel
theorem d_md_exists_23 : decode m_md_exists.2.1 23 = .ok (.getfield 69, 3) := by decide +kernel
theorem d_md_exists_26 : decode m_md_exists.2.1 26 = .ok (.iload_n 2, 1) := by decide +kernel
theorem d_md_exists_27 : decode m_md_exists.2.1 27 = .ok (.baload, 1) := by decide +kernel
theorem d_md_exists_28 : decode m_md_exists.2.1 28 = .ok (.istore 4, 2) := by decide +kernel
theorem d_md_exists_30 : decode m_md_exists.2.1 30 = .ok (.iload_n 3, 1) := by decide +kernel
theorem d_md_exists_31 : decode m_md_exists.2.1 31 = .ok (.ifCond .eq (16), 3) := by decide +kernel
theorem d_md_exists_34 : decode m_md_exists.2.1 34 = .ok (.aload_n 0, 1) := by decide +kernel
theorem d_md_exists_35 : decode m_md_exists.2.1 35 = .ok (.getfield 57, 3) := by decide +kernel
theorem d_md_exists_38 : decode m_md_exists.2.1 38 = .ok (.sipush 259, 3) := by decide +kernel
theorem d_md_exists_41 : decode m_md_exists.2.1 41 = .ok (.iload_n 1, 1) := by decide +kernel
theorem d_md_exists_42 : decode m_md_exists.2.1 42 = .ok (.imul, 1) := by decide +kernel
theorem d_md_exists_43 : decode m_md_exists.2.1 43 = .ok (.iload_n 2, 1) := by decide +kernel
theorem d_md_exists_44 : decode m_md_exists.2.1 44 = .ok (.iadd, 1) := by decide +kernel
theorem d_md_exists_45 : decode m_md_exists.2.1 45 = .ok (.iconst 1, 1) := by decide +kernel
theorem d_md_exists_46 : decode m_md_exists.2.1 46 = .ok (.bastore, 1) := by decide +kernel
theorem d_md_exists_47 : decode m_md_exists.2.1 47 = .ok (.aload_n 0, 1) := by decide +kernel
theorem d_md_exists_48 : decode m_md_exists.2.1 48 = .ok (.iload 4, 2) := by decide +kernel
theorem d_md_exists_50 : decode m_md_exists.2.1 50 = .ok (.ifCond .eq (7), 3) := by decide +kernel
theorem d_md_exists_53 : decode m_md_exists.2.1 53 = .ok (.iconst 1, 1) := by decide +kernel
theorem d_md_exists_54 : decode m_md_exists.2.1 54 = .ok (.goto 4, 3) := by decide +kernel
theorem d_md_exists_57 : decode m_md_exists.2.1 57 = .ok (.iconst 0, 1) := by decide +kernel
theorem d_md_exists_58 : decode m_md_exists.2.1 58 = .ok (.invokevirtual 155, 3) := by decide +kernel
theorem d_md_exists_61 : decode m_md_exists.2.1 61 = .ok (.iconst 1, 1) := by decide +kernel
theorem d_md_exists_62 : decode m_md_exists.2.1 62 = .ok (.if_icmp .ne (7), 3) := by decide +kernel
theorem d_md_exists_65 : decode m_md_exists.2.1 65 = .ok (.iconst 1, 1) := by decide +kernel
theorem d_md_exists_66 : decode m_md_exists.2.1 66 = .ok (.goto 4, 3) := by decide +kernel
theorem d_md_exists_69 : decode m_md_exists.2.1 69 = .ok (.iconst 0, 1) := by decide +kernel
theorem d_md_exists_70 : decode m_md_exists.2.1 70 = .ok (.ireturn, 1) := by decide +kernel
theorem d_md_children_0 : decode m_md_children.2.1 0 = .ok (.aload_n 0, 1) := by decide +kernel
theorem d_md_children_1 : decode m_md_children.2.1 1 = .ok (.aload_n 0, 1) := by decide +kernel
theorem d_md_children_2 : decode m_md_children.2.1 2 = .ok (.iload_n 1, 1) := by decide +kernel
theorem d_md_children_3 : decode m_md_children.2.1 3 = .ok (.iload_n 2, 1) := by decide +kernel
theorem d_md_children_4 : decode m_md_children.2.1 4 = .ok (.bipush 43, 2) := by decide +kernel
theorem d_md_children_6 : decode m_md_children.2.1 6 = .ok (.invokevirtual 167, 3) := by decide +kernel
theorem d_md_children_9 : decode m_md_children.2.1 9 = .ok (.putfield 84, 3) := by decide +kernel
theorem d_md_children_12 : decode m_md_children.2.1 12 = .ok (.aload_n 0, 1) := by decide +kernel
theorem d_md_children_13 : decode m_md_children.2.1 13 = .ok (.getfield 84, 3) := by decide +kernel
theorem d_md_children_16 : decode m_md_children.2.1 16 = .ok (.ifCond .ne (17), 3) := by decide +kernel
theorem d_md_children_19 : decode m_md_children.2.1 19 = .ok (.aload_n 0, 1) := by decide +kernel
theorem d_md_children_20 : decode m_md_children.2.1 20 = .ok (.getfield 69, 3) := by decide +kernel
theorem d_md_children_23 : decode m_md_children.2.1 23 = .ok (.iload_n 2, 1) := by decide +kernel
theorem d_md_children_24 : decode m_md_children.2.1 24 = .ok (.baload, 1) := by decide +kernel
theorem d_md_children_25 : decode m_md_children.2.1 25 = .ok (.ifCond .ne (8), 3) := by decide +kernel
theorem d_md_children_28 : decode m_md_children.2.1 28 = .ok (.aload_n 0, 1) := by decide +kernel
theorem d_md_children_29 : decode m_md_children.2.1 29 = .ok (.iconst 3, 1) := by decide +kernel
theorem d_md_children_30 : decode m_md_children.2.1 30 = .ok (.putfield 84, 3) := by decide +kernel
theorem d_md_children_33 : decode m_md_children.2.1 33 = .ok (.aload_n 0, 1) := by decide +kernel
theorem d_md_children_34 : decode m_md_children.2.1 34 = .ok (.getfield 84, 3) := by decide +kernel
theorem d_md_children_37 : decode m_md_children.2.1 37 = .ok (.ifCond .le (5), 3) := by decide +kernel
theorem d_md_children_40 : decode m_md_children.2.1 40 = .ok (.iconst 0, 1) := by decide +kernel
theorem d_md_children_41 : decode m_md_children.2.1 41 = .ok (.ireturn, 1) := by decide +kernel
theorem d_md_children_42 : decode m_md_children.2.1 42 = .ok (.aload_n 0, 1) := by decide +kernel
theorem d_md_children_43 : decode m_md_children.2.1 43 = .ok (.iload_n 2, 1) := by decide +kernel
theorem d_md_children_44 : decode m_md_children.2.1 44 = .ok (.invokevirtual 164, 3) := by decide +kernel
theorem d_md_children_47 : decode m_md_children.2.1 47 = .ok (.istore 4, 2) := by decide +kernel
theorem d_md_children_49 : decode m_md_children.2.1 49 = .ok (.iload_n 3, 1) := by decide +kernel
theorem d_md_children_50 : decode m_md_children.2.1 50 = .ok (.ifCond .eq (16), 3) := by decide +kernel
theorem d_md_children_53 : decode m_md_children.2.1 53 = .ok (.aload_n 0, 1) := by decide +kernel
theorem d_md_children_54 : decode m_md_children.2.1 54 = .ok (.getfield 60, 3) := by decide +kernel
theorem d_md_children_57 : decode m_md_children.2.1 57 = .ok (.sipush 259, 3) := by decide +kernel
theorem d_md_children_60 : decode m_md_children.2.1 60 = .ok (.iload_n 1, 1) := by decide +kernel
theorem d_md_children_61 : decode m_md_children.2.1 61 = .ok (.imul, 1) := by decide +kernel
theorem d_md_children_62 : decode m_md_children.2.1 62 = .ok (.iload_n 2, 1) := by decide +kernel
theorem d_md_children_63 : decode m_md_children.2.1 63 = .ok (.iadd, 1) := by decide +kernel
theorem d_md_children_64 : decode m_md_children.2.1 64 = .ok (.iconst 1, 1) := by decide +kernel
theorem d_md_children_65 : decode m_md_children.2.1 65 = .ok (.bastore, 1) := by decide +kernel
theorem d_md_children_66 : decode m_md_children.2.1 66 = .ok (.aload_n 0, 1) := by decide +kernel
theorem d_md_children_67 : decode m_md_children.2.1 67 = .ok (.iload 4, 2) := by decide +kernel
theorem d_md_children_69 : decode m_md_children.2.1 69 = .ok (.invokevirtual 155, 3) := by decide +kernel
theorem d_md_children_72 : decode m_md_children.2.1 72 = .ok (.ireturn, 1) := by decide +kernel
theorem d_md_fact_0 : decode m_md_fact.2.1 0 = .ok (.aload_n 0, 1) := by decide +kernel
theorem d_md_fact_1 : decode m_md_fact.2.1 1 = .ok (.aload_n 0, 1) := by decide +kernel
theorem d_md_fact_2 : decode m_md_fact.2.1 2 = .ok (.iload_n 3, 1) := by decide +kernel
theorem d_md_fact_3 : decode m_md_fact.2.1 3 = .ok (.iconst 3, 1) := by decide +kernel
theorem d_md_fact_4 : decode m_md_fact.2.1 4 = .ok (.invokevirtual 145, 3) := by decide +kernel
theorem d_md_fact_7 : decode m_md_fact.2.1 7 = .ok (.ifCond .eq (7), 3) := by decide +kernel
theorem d_md_fact_10 : decode m_md_fact.2.1 10 = .ok (.iconst 1, 1) := by decide +kernel
theorem d_md_fact_11 : decode m_md_fact.2.1 11 = .ok (.goto 12, 3) := by decide +kernel
theorem d_md_fact_14 : decode m_md_fact.2.1 14 = .ok (.aload_n 0, 1) := by decide +kernel
theorem d_md_fact_15 : decode m_md_fact.2.1 15 = .ok (.iload_n 1, 1) := by decide +kernel
theorem d_md_fact_16 : decode m_md_fact.2.1 16 = .ok (.iload_n 2, 1) := by decide +kernel
theorem d_md_fact_17 : decode m_md_fact.2.1 17 = .ok (.sipush 259, 3) := by decide +kernel
theorem d_md_fact_20 : decode m_md_fact.2.1 20 = .ok (.invokevirtual 167, 3) := by decide +kernel
theorem d_md_fact_23 : decode m_md_fact.2.1 23 = .ok (.putfield 84, 3) := by decide +kernel
theorem d_md_fact_26 : decode m_md_fact.2.1 26 = .ok (.aload_n 0, 1) := by decide +kernel
theorem d_md_fact_27 : decode m_md_fact.2.1 27 = .ok (.getfield 84, 3) := by decide +kernel
theorem d_md_fact_30 : decode m_md_fact.2.1 30 = .ok (.ifCond .ne (17), 3) := by decide +kernel
theorem d_md_fact_33 : decode m_md_fact.2.1 33 = .ok (.aload_n 0, 1) := by decide +kernel
theorem d_md_fact_34 : decode m_md_fact.2.1 34 = .ok (.getfield 69, 3) := by decide +kernel
theorem d_md_fact_37 : decode m_md_fact.2.1 37 = .ok (.iload_n 2, 1) := by decide +kernel
theorem d_md_fact_38 : decode m_md_fact.2.1 38 = .ok (.baload, 1) := by decide +kernel
theorem d_md_fact_39 : decode m_md_fact.2.1 39 = .ok (.ifCond .ne (8), 3) := by decide +kernel
theorem d_md_fact_42 : decode m_md_fact.2.1 42 = .ok (.aload_n 0, 1) := by decide +kernel
theorem d_md_fact_43 : decode m_md_fact.2.1 43 = .ok (.iconst 3, 1) := by decide +kernel
theorem d_md_fact_44 : decode m_md_fact.2.1 44 = .ok (.putfield 84, 3) := by decide +kernel
theorem d_md_fact_47 : decode m_md_fact.2.1 47 = .ok (.aload_n 0, 1) := by decide +kernel
theorem d_md_fact_48 : decode m_md_fact.2.1 48 = .ok (.getfield 84, 3) := by decide +kernel
theorem d_md_fact_51 : decode m_md_fact.2.1 51 = .ok (.ifCond .le (5), 3) := by decide +kernel
theorem d_md_fact_54 : decode m_md_fact.2.1 54 = .ok (.iconst 0, 1) := by decide +kernel
theorem d_md_fact_55 : decode m_md_fact.2.1 55 = .ok (.ireturn, 1) := by decide +kernel
theorem d_md_fact_56 : decode m_md_fact.2.1 56 = .ok (.aload_n 0, 1) := by decide +kernel
theorem d_md_fact_57 : decode m_md_fact.2.1 57 = .ok (.iload_n 3, 1) := by decide +kernel
theorem d_md_fact_58 : decode m_md_fact.2.1 58 = .ok (.ifCond .ne (12), 3) := by decide +kernel
theorem d_md_fact_61 : decode m_md_fact.2.1 61 = .ok (.aload_n 0, 1) := by decide +kernel
theorem d_md_fact_62 : decode m_md_fact.2.1 62 = .ok (.getfield 75, 3) := by decide +kernel
theorem d_md_fact_65 : decode m_md_fact.2.1 65 = .ok (.iload_n 2, 1) := by decide +kernel
theorem d_md_fact_66 : decode m_md_fact.2.1 66 = .ok (.iaload, 1) := by decide +kernel
theorem d_md_fact_67 : decode m_md_fact.2.1 67 = .ok (.goto 23, 3) := by decide +kernel
theorem d_md_fact_70 : decode m_md_fact.2.1 70 = .ok (.iload_n 3, 1) := by decide +kernel
theorem d_md_fact_71 : decode m_md_fact.2.1 71 = .ok (.iconst 1, 1) := by decide +kernel
theorem d_md_fact_72 : decode m_md_fact.2.1 72 = .ok (.if_icmp .ne (12), 3) := by decide +kernel
theorem d_md_fact_75 : decode m_md_fact.2.1 75 = .ok (.aload_n 0, 1) := by decide +kernel
theorem d_md_fact_76 : decode m_md_fact.2.1 76 = .ok (.getfield 78, 3) := by decide +kernel
theorem d_md_fact_79 : decode m_md_fact.2.1 79 = .ok (.iload_n 2, 1) := by decide +kernel
theorem d_md_fact_80 : decode m_md_fact.2.1 80 = .ok (.iaload, 1) := by decide +kernel
theorem d_md_fact_81 : decode m_md_fact.2.1 81 = .ok (.goto 9, 3) := by decide +kernel
theorem d_md_fact_84 : decode m_md_fact.2.1 84 = .ok (.aload_n 0, 1) := by decide +kernel
theorem d_md_fact_85 : decode m_md_fact.2.1 85 = .ok (.getfield 81, 3) := by decide +kernel
theorem d_md_fact_88 : decode m_md_fact.2.1 88 = .ok (.iload_n 2, 1) := by decide +kernel
theorem d_md_fact_89 : decode m_md_fact.2.1 89 = .ok (.iaload, 1) := by decide +kernel
theorem d_md_fact_90 : decode m_md_fact.2.1 90 = .ok (.invokevirtual 155, 3) := by decide +kernel
theorem d_md_fact_93 : decode m_md_fact.2.1 93 = .ok (.ireturn, 1) := by decide +kernel
theorem d_md_event_0 : decode m_md_event.2.1 0 = .ok (.aload_n 0, 1) := by decide +kernel
theorem d_md_event_1 : decode m_md_event.2.1 1 = .ok (.iconst 0, 1) := by decide +kernel
theorem d_md_event_2 : decode m_md_event.2.1 2 = .ok (.putfield 84, 3) := by decide +kernel
theorem d_md_event_5 : decode m_md_event.2.1 5 = .ok (.aload_n 0, 1) := by decide +kernel
theorem d_md_event_6 : decode m_md_event.2.1 6 = .ok (.iload_n 1, 1) := by decide +kernel
theorem d_md_event_7 : decode m_md_event.2.1 7 = .ok (.iconst 4, 1) := by decide +kernel
theorem d_md_event_8 : decode m_md_event.2.1 8 = .ok (.invokevirtual 145, 3) := by decide +kernel
theorem d_md_event_11 : decode m_md_event.2.1 11 = .ok (.ifCond .eq (9), 3) := by decide +kernel
theorem d_md_event_14 : decode m_md_event.2.1 14 = .ok (.aload_n 0, 1) := by decide +kernel
theorem d_md_event_15 : decode m_md_event.2.1 15 = .ok (.iconst 1, 1) := by decide +kernel
theorem d_md_event_16 : decode m_md_event.2.1 16 = .ok (.invokevirtual 149, 3) := by decide +kernel
theorem d_md_event_19 : decode m_md_event.2.1 19 = .ok (.ireturn, 1) := by decide +kernel
theorem d_md_event_20 : decode m_md_event.2.1 20 = .ok (.aload_n 0, 1) := by decide +kernel
theorem d_md_event_21 : decode m_md_event.2.1 21 = .ok (.getfield 42, 3) := by decide +kernel
theorem d_md_event_24 : decode m_md_event.2.1 24 = .ok (.iload_n 1, 1) := by decide +kernel
theorem d_md_event_25 : decode m_md_event.2.1 25 = .ok (.baload, 1) := by decide +kernel
theorem d_md_event_26 : decode m_md_event.2.1 26 = .ok (.ifCond .ne (9), 3) := by decide +kernel
theorem d_md_event_29 : decode m_md_event.2.1 29 = .ok (.aload_n 0, 1) := by decide +kernel
theorem d_md_event_30 : decode m_md_event.2.1 30 = .ok (.iconst 2, 1) := by decide +kernel
theorem d_md_event_31 : decode m_md_event.2.1 31 = .ok (.invokevirtual 149, 3) := by decide +kernel
theorem d_md_event_34 : decode m_md_event.2.1 34 = .ok (.ireturn, 1) := by decide +kernel
theorem d_md_event_35 : decode m_md_event.2.1 35 = .ok (.aload_n 0, 1) := by decide +kernel
theorem d_md_event_36 : decode m_md_event.2.1 36 = .ok (.getfield 66, 3) := by decide +kernel
theorem d_md_event_39 : decode m_md_event.2.1 39 = .ok (.iload_n 1, 1) := by decide +kernel
theorem d_md_event_40 : decode m_md_event.2.1 40 = .ok (.iaload, 1) := by decide +kernel
theorem d_md_event_41 : decode m_md_event.2.1 41 = .ok (.ifCond .ne (9), 3) := by decide +kernel
theorem d_md_event_44 : decode m_md_event.2.1 44 = .ok (.aload_n 0, 1) := by decide +kernel
theorem d_md_event_45 : decode m_md_event.2.1 45 = .ok (.iconst 3, 1) := by decide +kernel
theorem d_md_event_46 : decode m_md_event.2.1 46 = .ok (.invokevirtual 149, 3) := by decide +kernel
theorem d_md_event_49 : decode m_md_event.2.1 49 = .ok (.ireturn, 1) := by decide +kernel
theorem d_md_event_50 : decode m_md_event.2.1 50 = .ok (.aload_n 0, 1) := by decide +kernel
theorem d_md_event_51 : decode m_md_event.2.1 51 = .ok (.getfield 63, 3) := by decide +kernel
theorem d_md_event_54 : decode m_md_event.2.1 54 = .ok (.bipush 8, 2) := by decide +kernel
theorem d_md_event_56 : decode m_md_event.2.1 56 = .ok (.iload_n 1, 1) := by decide +kernel
theorem d_md_event_57 : decode m_md_event.2.1 57 = .ok (.imul, 1) := by decide +kernel
theorem d_md_event_58 : decode m_md_event.2.1 58 = .ok (.iaload, 1) := by decide +kernel
theorem d_md_event_59 : decode m_md_event.2.1 59 = .ok (.istore_n 2, 1) := by decide +kernel
theorem d_md_event_60 : decode m_md_event.2.1 60 = .ok (.aload_n 0, 1) := by decide +kernel
theorem d_md_event_61 : decode m_md_event.2.1 61 = .ok (.getfield 66, 3) := by decide +kernel
theorem d_md_event_64 : decode m_md_event.2.1 64 = .ok (.iload_n 1, 1) := by decide +kernel
theorem d_md_event_65 : decode m_md_event.2.1 65 = .ok (.dup2, 1) := by decide +kernel
theorem d_md_event_66 : decode m_md_event.2.1 66 = .ok (.iaload, 1) := by decide +kernel
theorem d_md_event_67 : decode m_md_event.2.1 67 = .ok (.iconst 1, 1) := by decide +kernel
theorem d_md_event_68 : decode m_md_event.2.1 68 = .ok (.isub, 1) := by decide +kernel
theorem d_md_event_69 : decode m_md_event.2.1 69 = .ok (.iastore, 1) := by decide +kernel
theorem d_md_event_70 : decode m_md_event.2.1 70 = .ok (.iconst 0, 1) := by decide +kernel
theorem d_md_event_71 : decode m_md_event.2.1 71 = .ok (.istore_n 3, 1) := by decide +kernel
theorem d_md_event_72 : decode m_md_event.2.1 72 = .ok (.iload_n 3, 1) := by decide +kernel
theorem d_md_event_73 : decode m_md_event.2.1 73 = .ok (.aload_n 0, 1) := by decide +kernel
theorem d_md_event_74 : decode m_md_event.2.1 74 = .ok (.getfield 66, 3) := by decide +kernel
theorem d_md_event_77 : decode m_md_event.2.1 77 = .ok (.iload_n 1, 1) := by decide +kernel
theorem d_md_event_78 : decode m_md_event.2.1 78 = .ok (.iaload, 1) := by decide +kernel
theorem d_md_event_79 : decode m_md_event.2.1 79 = .ok (.if_icmp .ge (33), 3) := by decide +kernel
theorem d_md_event_82 : decode m_md_event.2.1 82 = .ok (.aload_n 0, 1) := by decide +kernel
theorem d_md_event_83 : decode m_md_event.2.1 83 = .ok (.getfield 63, 3) := by decide +kernel
theorem d_md_event_86 : decode m_md_event.2.1 86 = .ok (.bipush 8, 2) := by decide +kernel
theorem d_md_event_88 : decode m_md_event.2.1 88 = .ok (.iload_n 1, 1) := by decide +kernel
theorem d_md_event_89 : decode m_md_event.2.1 89 = .ok (.imul, 1) := by decide +kernel
theorem d_md_event_90 : decode m_md_event.2.1 90 = .ok (.iload_n 3, 1) := by decide +kernel
theorem d_md_event_91 : decode m_md_event.2.1 91 = .ok (.iadd, 1) := by decide +kernel
theorem d_md_event_92 : decode m_md_event.2.1 92 = .ok (.aload_n 0, 1) := by decide +kernel
theorem d_md_event_93 : decode m_md_event.2.1 93 = .ok (.getfield 63, 3) := by decide +kernel
theorem d_md_event_96 : decode m_md_event.2.1 96 = .ok (.bipush 8, 2) := by decide +kernel
theorem d_md_event_98 : decode m_md_event.2.1 98 = .ok (.iload_n 1, 1) := by decide +kernel
theorem d_md_event_99 : decode m_md_event.2.1 99 = .ok (.imul, 1) := by decide +kernel
theorem d_md_event_100 : decode m_md_event.2.1 100 = .ok (.iload_n 3, 1) := by decide +kernel
theorem d_md_event_101 : decode m_md_event.2.1 101 = .ok (.iadd, 1) := by decide +kernel
theorem d_md_event_102 : decode m_md_event.2.1 102 = .ok (.iconst 1, 1) := by decide +kernel
theorem d_md_event_103 : decode m_md_event.2.1 103 = .ok (.iadd, 1) := by decide +kernel
theorem d_md_event_104 : decode m_md_event.2.1 104 = .ok (.iaload, 1) := by decide +kernel
theorem d_md_event_105 : decode m_md_event.2.1 105 = .ok (.iastore, 1) := by decide +kernel
theorem d_md_event_106 : decode m_md_event.2.1 106 = .ok (.iinc 3 1, 3) := by decide +kernel
theorem d_md_event_109 : decode m_md_event.2.1 109 = .ok (.goto (-37), 3) := by decide +kernel
theorem d_md_event_112 : decode m_md_event.2.1 112 = .ok (.aload_n 0, 1) := by decide +kernel
theorem d_md_event_113 : decode m_md_event.2.1 113 = .ok (.iload_n 2, 1) := by decide +kernel
theorem d_md_event_114 : decode m_md_event.2.1 114 = .ok (.invokevirtual 155, 3) := by decide +kernel
theorem d_md_event_117 : decode m_md_event.2.1 117 = .ok (.ireturn, 1) := by decide +kernel
theorem d_md_crash_0 : decode m_md_crash.2.1 0 = .ok (.aload_n 0, 1) := by decide +kernel
theorem d_md_crash_1 : decode m_md_crash.2.1 1 = .ok (.iconst 0, 1) := by decide +kernel
theorem d_md_crash_2 : decode m_md_crash.2.1 2 = .ok (.putfield 84, 3) := by decide +kernel
theorem d_md_crash_5 : decode m_md_crash.2.1 5 = .ok (.aload_n 0, 1) := by decide +kernel
theorem d_md_crash_6 : decode m_md_crash.2.1 6 = .ok (.iload_n 1, 1) := by decide +kernel
theorem d_md_crash_7 : decode m_md_crash.2.1 7 = .ok (.iconst 3, 1) := by decide +kernel
theorem d_md_crash_8 : decode m_md_crash.2.1 8 = .ok (.invokevirtual 145, 3) := by decide +kernel
theorem d_md_crash_11 : decode m_md_crash.2.1 11 = .ok (.ifCond .eq (9), 3) := by decide +kernel
theorem d_md_crash_14 : decode m_md_crash.2.1 14 = .ok (.aload_n 0, 1) := by decide +kernel
theorem d_md_crash_15 : decode m_md_crash.2.1 15 = .ok (.iconst 1, 1) := by decide +kernel
theorem d_md_crash_16 : decode m_md_crash.2.1 16 = .ok (.invokevirtual 149, 3) := by decide +kernel
theorem d_md_crash_19 : decode m_md_crash.2.1 19 = .ok (.ireturn, 1) := by decide +kernel
theorem d_md_crash_20 : decode m_md_crash.2.1 20 = .ok (.aload_n 0, 1) := by decide +kernel
theorem d_md_crash_21 : decode m_md_crash.2.1 21 = .ok (.getfield 31, 3) := by decide +kernel
theorem d_md_crash_24 : decode m_md_crash.2.1 24 = .ok (.iload_n 1, 1) := by decide +kernel
theorem d_md_crash_25 : decode m_md_crash.2.1 25 = .ok (.baload, 1) := by decide +kernel
theorem d_md_crash_26 : decode m_md_crash.2.1 26 = .ok (.ifCond .eq (9), 3) := by decide +kernel
theorem d_md_crash_29 : decode m_md_crash.2.1 29 = .ok (.aload_n 0, 1) := by decide +kernel
theorem d_md_crash_30 : decode m_md_crash.2.1 30 = .ok (.iconst 2, 1) := by decide +kernel
theorem d_md_crash_31 : decode m_md_crash.2.1 31 = .ok (.invokevirtual 149, 3) := by decide +kernel
theorem d_md_crash_34 : decode m_md_crash.2.1 34 = .ok (.ireturn, 1) := by decide +kernel
theorem d_md_crash_35 : decode m_md_crash.2.1 35 = .ok (.aload_n 0, 1) := by decide +kernel
theorem d_md_crash_36 : decode m_md_crash.2.1 36 = .ok (.getfield 31, 3) := by decide +kernel
theorem d_md_crash_39 : decode m_md_crash.2.1 39 = .ok (.iload_n 1, 1) := by decide +kernel
theorem d_md_crash_40 : decode m_md_crash.2.1 40 = .ok (.iconst 1, 1) := by decide +kernel
theorem d_md_crash_41 : decode m_md_crash.2.1 41 = .ok (.bastore, 1) := by decide +kernel
theorem d_md_crash_42 : decode m_md_crash.2.1 42 = .ok (.aload_n 0, 1) := by decide +kernel
theorem d_md_crash_43 : decode m_md_crash.2.1 43 = .ok (.getfield 105, 3) := by decide +kernel
theorem d_md_crash_46 : decode m_md_crash.2.1 46 = .ok (.iload_n 1, 1) := by decide +kernel
theorem d_md_crash_47 : decode m_md_crash.2.1 47 = .ok (.if_icmp .ne (8), 3) := by decide +kernel
theorem d_md_crash_50 : decode m_md_crash.2.1 50 = .ok (.aload_n 0, 1) := by decide +kernel
theorem d_md_crash_51 : decode m_md_crash.2.1 51 = .ok (.iconst (-1), 1) := by decide +kernel
theorem d_md_crash_52 : decode m_md_crash.2.1 52 = .ok (.putfield 105, 3) := by decide +kernel
theorem d_md_crash_55 : decode m_md_crash.2.1 55 = .ok (.iconst 0, 1) := by decide +kernel
theorem d_md_crash_56 : decode m_md_crash.2.1 56 = .ok (.istore_n 2, 1) := by decide +kernel
theorem d_md_crash_57 : decode m_md_crash.2.1 57 = .ok (.iload_n 2, 1) := by decide +kernel
theorem d_md_crash_58 : decode m_md_crash.2.1 58 = .ok (.iconst 4, 1) := by decide +kernel
theorem d_md_crash_59 : decode m_md_crash.2.1 59 = .ok (.if_icmp .ge (24), 3) := by decide +kernel
theorem d_md_crash_62 : decode m_md_crash.2.1 62 = .ok (.aload_n 0, 1) := by decide +kernel
theorem d_md_crash_63 : decode m_md_crash.2.1 63 = .ok (.getfield 48, 3) := by decide +kernel
theorem d_md_crash_66 : decode m_md_crash.2.1 66 = .ok (.iload_n 2, 1) := by decide +kernel
theorem d_md_crash_67 : decode m_md_crash.2.1 67 = .ok (.iaload, 1) := by decide +kernel
theorem d_md_crash_68 : decode m_md_crash.2.1 68 = .ok (.iload_n 1, 1) := by decide +kernel
theorem d_md_crash_69 : decode m_md_crash.2.1 69 = .ok (.if_icmp .ne (8), 3) := by decide +kernel
theorem d_md_crash_72 : decode m_md_crash.2.1 72 = .ok (.aload_n 0, 1) := by decide +kernel
theorem d_md_crash_73 : decode m_md_crash.2.1 73 = .ok (.iload_n 2, 1) := by decide +kernel
theorem d_md_crash_74 : decode m_md_crash.2.1 74 = .ok (.invokevirtual 141, 3) := by decide +kernel
theorem d_md_crash_77 : decode m_md_crash.2.1 77 = .ok (.iinc 2 1, 3) := by decide +kernel
theorem d_md_crash_80 : decode m_md_crash.2.1 80 = .ok (.goto (-23), 3) := by decide +kernel
theorem d_md_crash_83 : decode m_md_crash.2.1 83 = .ok (.aload_n 0, 1) := by decide +kernel
theorem d_md_crash_84 : decode m_md_crash.2.1 84 = .ok (.aload_n 0, 1) := by decide +kernel
theorem d_md_crash_85 : decode m_md_crash.2.1 85 = .ok (.getfield 22, 3) := by decide +kernel
theorem d_md_crash_88 : decode m_md_crash.2.1 88 = .ok (.iload_n 1, 1) := by decide +kernel
theorem d_md_crash_89 : decode m_md_crash.2.1 89 = .ok (.iaload, 1) := by decide +kernel
theorem d_md_crash_90 : decode m_md_crash.2.1 90 = .ok (.invokevirtual 155, 3) := by decide +kernel
theorem d_md_crash_93 : decode m_md_crash.2.1 93 = .ok (.ireturn, 1) := by decide +kernel
theorem d_md_restart_0 : decode m_md_restart.2.1 0 = .ok (.aload_n 0, 1) := by decide +kernel
theorem d_md_restart_1 : decode m_md_restart.2.1 1 = .ok (.iconst 0, 1) := by decide +kernel
theorem d_md_restart_2 : decode m_md_restart.2.1 2 = .ok (.putfield 84, 3) := by decide +kernel
theorem d_md_restart_5 : decode m_md_restart.2.1 5 = .ok (.aload_n 0, 1) := by decide +kernel
theorem d_md_restart_6 : decode m_md_restart.2.1 6 = .ok (.iload_n 1, 1) := by decide +kernel
theorem d_md_restart_7 : decode m_md_restart.2.1 7 = .ok (.iconst 3, 1) := by decide +kernel
theorem d_md_restart_8 : decode m_md_restart.2.1 8 = .ok (.invokevirtual 145, 3) := by decide +kernel
theorem d_md_restart_11 : decode m_md_restart.2.1 11 = .ok (.ifCond .eq (9), 3) := by decide +kernel
theorem d_md_restart_14 : decode m_md_restart.2.1 14 = .ok (.aload_n 0, 1) := by decide +kernel
theorem d_md_restart_15 : decode m_md_restart.2.1 15 = .ok (.iconst 1, 1) := by decide +kernel
theorem d_md_restart_16 : decode m_md_restart.2.1 16 = .ok (.invokevirtual 149, 3) := by decide +kernel
theorem d_md_restart_19 : decode m_md_restart.2.1 19 = .ok (.ireturn, 1) := by decide +kernel
theorem d_md_restart_20 : decode m_md_restart.2.1 20 = .ok (.aload_n 0, 1) := by decide +kernel
theorem d_md_restart_21 : decode m_md_restart.2.1 21 = .ok (.getfield 31, 3) := by decide +kernel
theorem d_md_restart_24 : decode m_md_restart.2.1 24 = .ok (.iload_n 1, 1) := by decide +kernel
theorem d_md_restart_25 : decode m_md_restart.2.1 25 = .ok (.baload, 1) := by decide +kernel
theorem d_md_restart_26 : decode m_md_restart.2.1 26 = .ok (.ifCond .ne (9), 3) := by decide +kernel
theorem d_md_restart_29 : decode m_md_restart.2.1 29 = .ok (.aload_n 0, 1) := by decide +kernel
theorem d_md_restart_30 : decode m_md_restart.2.1 30 = .ok (.iconst 2, 1) := by decide +kernel
theorem d_md_restart_31 : decode m_md_restart.2.1 31 = .ok (.invokevirtual 149, 3) := by decide +kernel
theorem d_md_restart_34 : decode m_md_restart.2.1 34 = .ok (.ireturn, 1) := by decide +kernel
theorem d_md_restart_35 : decode m_md_restart.2.1 35 = .ok (.aload_n 0, 1) := by decide +kernel
theorem d_md_restart_36 : decode m_md_restart.2.1 36 = .ok (.getfield 31, 3) := by decide +kernel
theorem d_md_restart_39 : decode m_md_restart.2.1 39 = .ok (.iload_n 1, 1) := by decide +kernel
theorem d_md_restart_40 : decode m_md_restart.2.1 40 = .ok (.iconst 0, 1) := by decide +kernel
theorem d_md_restart_41 : decode m_md_restart.2.1 41 = .ok (.bastore, 1) := by decide +kernel
theorem d_md_restart_42 : decode m_md_restart.2.1 42 = .ok (.aload_n 0, 1) := by decide +kernel
theorem d_md_restart_43 : decode m_md_restart.2.1 43 = .ok (.getfield 105, 3) := by decide +kernel
theorem d_md_restart_46 : decode m_md_restart.2.1 46 = .ok (.ifCond .lt (7), 3) := by decide +kernel
theorem d_md_restart_49 : decode m_md_restart.2.1 49 = .ok (.aload_n 0, 1) := by decide +kernel
theorem d_md_restart_50 : decode m_md_restart.2.1 50 = .ok (.invokevirtual 125, 3) := by decide +kernel
theorem d_md_restart_53 : decode m_md_restart.2.1 53 = .ok (.aload_n 0, 1) := by decide +kernel
theorem d_md_restart_54 : decode m_md_restart.2.1 54 = .ok (.aload_n 0, 1) := by decide +kernel
theorem d_md_restart_55 : decode m_md_restart.2.1 55 = .ok (.getfield 25, 3) := by decide +kernel
theorem d_md_restart_58 : decode m_md_restart.2.1 58 = .ok (.iload_n 1, 1) := by decide +kernel
theorem d_md_restart_59 : decode m_md_restart.2.1 59 = .ok (.iaload, 1) := by decide +kernel
theorem d_md_restart_60 : decode m_md_restart.2.1 60 = .ok (.invokevirtual 155, 3) := by decide +kernel
theorem d_md_restart_63 : decode m_md_restart.2.1 63 = .ok (.ireturn, 1) := by decide +kernel
theorem d_md_alone_0 : decode m_md_alone.2.1 0 = .ok (.aload_n 0, 1) := by decide +kernel
theorem d_md_alone_1 : decode m_md_alone.2.1 1 = .ok (.iconst 0, 1) := by decide +kernel
theorem d_md_alone_2 : decode m_md_alone.2.1 2 = .ok (.putfield 84, 3) := by decide +kernel
theorem d_md_alone_5 : decode m_md_alone.2.1 5 = .ok (.aload_n 0, 1) := by decide +kernel
theorem d_md_alone_6 : decode m_md_alone.2.1 6 = .ok (.iload_n 1, 1) := by decide +kernel
theorem d_md_alone_7 : decode m_md_alone.2.1 7 = .ok (.iconst 3, 1) := by decide +kernel
theorem d_md_alone_8 : decode m_md_alone.2.1 8 = .ok (.invokevirtual 145, 3) := by decide +kernel
theorem d_md_alone_11 : decode m_md_alone.2.1 11 = .ok (.ifCond .eq (9), 3) := by decide +kernel
theorem d_md_alone_14 : decode m_md_alone.2.1 14 = .ok (.aload_n 0, 1) := by decide +kernel
theorem d_md_alone_15 : decode m_md_alone.2.1 15 = .ok (.iconst 1, 1) := by decide +kernel
theorem d_md_alone_16 : decode m_md_alone.2.1 16 = .ok (.invokevirtual 149, 3) := by decide +kernel
theorem d_md_alone_19 : decode m_md_alone.2.1 19 = .ok (.ireturn, 1) := by decide +kernel
theorem d_md_alone_20 : decode m_md_alone.2.1 20 = .ok (.aload_n 0, 1) := by decide +kernel
theorem d_md_alone_21 : decode m_md_alone.2.1 21 = .ok (.getfield 35, 3) := by decide +kernel
theorem d_md_alone_24 : decode m_md_alone.2.1 24 = .ok (.iload_n 1, 1) := by decide +kernel
theorem d_md_alone_25 : decode m_md_alone.2.1 25 = .ok (.baload, 1) := by decide +kernel
theorem d_md_alone_26 : decode m_md_alone.2.1 26 = .ok (.iload_n 2, 1) := by decide +kernel
theorem d_md_alone_27 : decode m_md_alone.2.1 27 = .ok (.if_icmp .ne (7), 3) := by decide +kernel
theorem d_md_alone_30 : decode m_md_alone.2.1 30 = .ok (.iconst 0, 1) := by decide +kernel
theorem d_md_alone_31 : decode m_md_alone.2.1 31 = .ok (.goto 4, 3) := by decide +kernel
theorem d_md_alone_34 : decode m_md_alone.2.1 34 = .ok (.iconst 1, 1) := by decide +kernel
theorem d_md_alone_35 : decode m_md_alone.2.1 35 = .ok (.istore_n 3, 1) := by decide +kernel
theorem d_md_alone_36 : decode m_md_alone.2.1 36 = .ok (.aload_n 0, 1) := by decide +kernel
theorem d_md_alone_37 : decode m_md_alone.2.1 37 = .ok (.getfield 35, 3) := by decide +kernel
theorem d_md_alone_40 : decode m_md_alone.2.1 40 = .ok (.iload_n 1, 1) := by decide +kernel
theorem d_md_alone_41 : decode m_md_alone.2.1 41 = .ok (.iload_n 2, 1) := by decide +kernel
theorem d_md_alone_42 : decode m_md_alone.2.1 42 = .ok (.bastore, 1) := by decide +kernel
theorem d_md_alone_43 : decode m_md_alone.2.1 43 = .ok (.aload_n 0, 1) := by decide +kernel
theorem d_md_alone_44 : decode m_md_alone.2.1 44 = .ok (.getfield 105, 3) := by decide +kernel
theorem d_md_alone_47 : decode m_md_alone.2.1 47 = .ok (.ifCond .lt (7), 3) := by decide +kernel
theorem d_md_alone_50 : decode m_md_alone.2.1 50 = .ok (.aload_n 0, 1) := by decide +kernel
theorem d_md_alone_51 : decode m_md_alone.2.1 51 = .ok (.invokevirtual 125, 3) := by decide +kernel
theorem d_md_alone_54 : decode m_md_alone.2.1 54 = .ok (.aload_n 0, 1) := by decide +kernel
theorem d_md_alone_55 : decode m_md_alone.2.1 55 = .ok (.iload_n 3, 1) := by decide +kernel
theorem d_md_alone_56 : decode m_md_alone.2.1 56 = .ok (.invokevirtual 155, 3) := by decide +kernel
theorem d_md_alone_59 : decode m_md_alone.2.1 59 = .ok (.ireturn, 1) := by decide +kernel
theorem d_md_elect_0 : decode m_md_elect.2.1 0 = .ok (.aload_n 0, 1) := by decide +kernel
theorem d_md_elect_1 : decode m_md_elect.2.1 1 = .ok (.iconst 0, 1) := by decide +kernel
theorem d_md_elect_2 : decode m_md_elect.2.1 2 = .ok (.putfield 84, 3) := by decide +kernel
theorem d_md_elect_5 : decode m_md_elect.2.1 5 = .ok (.iconst (-1), 1) := by decide +kernel
theorem d_md_elect_6 : decode m_md_elect.2.1 6 = .ok (.istore_n 1, 1) := by decide +kernel
theorem d_md_elect_7 : decode m_md_elect.2.1 7 = .ok (.iconst 0, 1) := by decide +kernel
theorem d_md_elect_8 : decode m_md_elect.2.1 8 = .ok (.istore_n 2, 1) := by decide +kernel
theorem d_md_elect_9 : decode m_md_elect.2.1 9 = .ok (.iconst 0, 1) := by decide +kernel
theorem d_md_elect_10 : decode m_md_elect.2.1 10 = .ok (.istore_n 3, 1) := by decide +kernel
theorem d_md_elect_11 : decode m_md_elect.2.1 11 = .ok (.iload_n 3, 1) := by decide +kernel
theorem d_md_elect_12 : decode m_md_elect.2.1 12 = .ok (.iconst 3, 1) := by decide +kernel
theorem d_md_elect_13 : decode m_md_elect.2.1 13 = .ok (.if_icmp .ge (86), 3) := by decide +kernel
theorem d_md_elect_16 : decode m_md_elect.2.1 16 = .ok (.aload_n 0, 1) := by decide +kernel
theorem d_md_elect_17 : decode m_md_elect.2.1 17 = .ok (.iload_n 3, 1) := by decide +kernel
theorem d_md_elect_18 : decode m_md_elect.2.1 18 = .ok (.invokevirtual 108, 3) := by decide +kernel
theorem d_md_elect_21 : decode m_md_elect.2.1 21 = .ok (.ifCond .ne (6), 3) := by decide +kernel
theorem d_md_elect_24 : decode m_md_elect.2.1 24 = .ok (.goto 69, 3) := by decide +kernel
theorem d_md_elect_27 : decode m_md_elect.2.1 27 = .ok (.iinc 2 1, 3) := by decide +kernel
theorem d_md_elect_30 : decode m_md_elect.2.1 30 = .ok (.iload_n 1, 1) := by decide +kernel
theorem d_md_elect_31 : decode m_md_elect.2.1 31 = .ok (.ifCond .lt (18), 3) := by decide +kernel
theorem d_md_elect_34 : decode m_md_elect.2.1 34 = .ok (.aload_n 0, 1) := by decide +kernel
theorem d_md_elect_35 : decode m_md_elect.2.1 35 = .ok (.getfield 28, 3) := by decide +kernel
theorem d_md_elect_38 : decode m_md_elect.2.1 38 = .ok (.iload_n 3, 1) := by decide +kernel
theorem d_md_elect_39 : decode m_md_elect.2.1 39 = .ok (.iaload, 1) := by decide +kernel
theorem d_md_elect_40 : decode m_md_elect.2.1 40 = .ok (.aload_n 0, 1) := by decide +kernel
theorem d_md_elect_41 : decode m_md_elect.2.1 41 = .ok (.getfield 28, 3) := by decide +kernel
theorem d_md_elect_44 : decode m_md_elect.2.1 44 = .ok (.iload_n 1, 1) := by decide +kernel
theorem d_md_elect_45 : decode m_md_elect.2.1 45 = .ok (.iaload, 1) := by decide +kernel
theorem d_md_elect_46 : decode m_md_elect.2.1 46 = .ok (.if_icmp .le (7), 3) := by decide +kernel
theorem d_md_elect_49 : decode m_md_elect.2.1 49 = .ok (.iconst 1, 1) := by decide +kernel
theorem d_md_elect_50 : decode m_md_elect.2.1 50 = .ok (.goto 4, 3) := by decide +kernel
theorem d_md_elect_53 : decode m_md_elect.2.1 53 = .ok (.iconst 0, 1) := by decide +kernel
theorem d_md_elect_54 : decode m_md_elect.2.1 54 = .ok (.istore 4, 2) := by decide +kernel
theorem d_md_elect_56 : decode m_md_elect.2.1 56 = .ok (.iload 4, 2) := by decide +kernel
theorem d_md_elect_58 : decode m_md_elect.2.1 58 = .ok (.ifCond .ne (33), 3) := by decide +kernel
theorem d_md_elect_61 : decode m_md_elect.2.1 61 = .ok (.aload_n 0, 1) := by decide +kernel
theorem d_md_elect_62 : decode m_md_elect.2.1 62 = .ok (.getfield 28, 3) := by decide +kernel
theorem d_md_elect_65 : decode m_md_elect.2.1 65 = .ok (.iload_n 3, 1) := by decide +kernel
theorem d_md_elect_66 : decode m_md_elect.2.1 66 = .ok (.iaload, 1) := by decide +kernel
theorem d_md_elect_67 : decode m_md_elect.2.1 67 = .ok (.aload_n 0, 1) := by decide +kernel
theorem d_md_elect_68 : decode m_md_elect.2.1 68 = .ok (.getfield 28, 3) := by decide +kernel
theorem d_md_elect_71 : decode m_md_elect.2.1 71 = .ok (.iload_n 1, 1) := by decide +kernel
theorem d_md_elect_72 : decode m_md_elect.2.1 72 = .ok (.iaload, 1) := by decide +kernel
theorem d_md_elect_73 : decode m_md_elect.2.1 73 = .ok (.if_icmp .ne (20), 3) := by decide +kernel
theorem d_md_elect_76 : decode m_md_elect.2.1 76 = .ok (.aload_n 0, 1) := by decide +kernel
theorem d_md_elect_77 : decode m_md_elect.2.1 77 = .ok (.getfield 22, 3) := by decide +kernel
theorem d_md_elect_80 : decode m_md_elect.2.1 80 = .ok (.iload_n 3, 1) := by decide +kernel
theorem d_md_elect_81 : decode m_md_elect.2.1 81 = .ok (.iaload, 1) := by decide +kernel
theorem d_md_elect_82 : decode m_md_elect.2.1 82 = .ok (.aload_n 0, 1) := by decide +kernel
theorem d_md_elect_83 : decode m_md_elect.2.1 83 = .ok (.getfield 22, 3) := by decide +kernel
theorem d_md_elect_86 : decode m_md_elect.2.1 86 = .ok (.iload_n 1, 1) := by decide +kernel
theorem d_md_elect_87 : decode m_md_elect.2.1 87 = .ok (.iaload, 1) := by decide +kernel
theorem d_md_elect_88 : decode m_md_elect.2.1 88 = .ok (.if_icmp .le (5), 3) := by decide +kernel
theorem d_md_elect_91 : decode m_md_elect.2.1 91 = .ok (.iload_n 3, 1) := by decide +kernel
theorem d_md_elect_92 : decode m_md_elect.2.1 92 = .ok (.istore_n 1, 1) := by decide +kernel
theorem d_md_elect_93 : decode m_md_elect.2.1 93 = .ok (.iinc 3 1, 3) := by decide +kernel
theorem d_md_elect_96 : decode m_md_elect.2.1 96 = .ok (.goto (-85), 3) := by decide +kernel
theorem d_md_elect_99 : decode m_md_elect.2.1 99 = .ok (.iload_n 2, 1) := by decide +kernel
theorem d_md_elect_100 : decode m_md_elect.2.1 100 = .ok (.iconst 2, 1) := by decide +kernel
theorem d_md_elect_101 : decode m_md_elect.2.1 101 = .ok (.if_icmp .ge (9), 3) := by decide +kernel
theorem d_md_elect_104 : decode m_md_elect.2.1 104 = .ok (.aload_n 0, 1) := by decide +kernel
theorem d_md_elect_105 : decode m_md_elect.2.1 105 = .ok (.iconst 1, 1) := by decide +kernel
theorem d_md_elect_106 : decode m_md_elect.2.1 106 = .ok (.invokevirtual 149, 3) := by decide +kernel
theorem d_md_elect_109 : decode m_md_elect.2.1 109 = .ok (.ireturn, 1) := by decide +kernel
theorem d_md_elect_110 : decode m_md_elect.2.1 110 = .ok (.aload_n 0, 1) := by decide +kernel
theorem d_md_elect_111 : decode m_md_elect.2.1 111 = .ok (.iload_n 1, 1) := by decide +kernel
theorem d_md_elect_112 : decode m_md_elect.2.1 112 = .ok (.putfield 105, 3) := by decide +kernel
theorem d_md_elect_115 : decode m_md_elect.2.1 115 = .ok (.aload_n 0, 1) := by decide +kernel
theorem d_md_elect_116 : decode m_md_elect.2.1 116 = .ok (.dup, 1) := by decide +kernel
theorem d_md_elect_117 : decode m_md_elect.2.1 117 = .ok (.getfield 38, 3) := by decide +kernel
theorem d_md_elect_120 : decode m_md_elect.2.1 120 = .ok (.iconst 1, 1) := by decide +kernel
theorem d_md_elect_121 : decode m_md_elect.2.1 121 = .ok (.iadd, 1) := by decide +kernel
theorem d_md_elect_122 : decode m_md_elect.2.1 122 = .ok (.putfield 38, 3) := by decide +kernel
theorem d_md_elect_125 : decode m_md_elect.2.1 125 = .ok (.aload_n 0, 1) := by decide +kernel
theorem d_md_elect_126 : decode m_md_elect.2.1 126 = .ok (.invokevirtual 125, 3) := by decide +kernel
theorem d_md_elect_129 : decode m_md_elect.2.1 129 = .ok (.aload_n 0, 1) := by decide +kernel
theorem d_md_elect_130 : decode m_md_elect.2.1 130 = .ok (.aload_n 0, 1) := by decide +kernel
theorem d_md_elect_131 : decode m_md_elect.2.1 131 = .ok (.getfield 105, 3) := by decide +kernel
theorem d_md_elect_134 : decode m_md_elect.2.1 134 = .ok (.invokevirtual 155, 3) := by decide +kernel
theorem d_md_elect_137 : decode m_md_elect.2.1 137 = .ok (.ireturn, 1) := by decide +kernel
theorem d_md_tick_0 : decode m_md_tick.2.1 0 = .ok (.aload_n 0, 1) := by decide +kernel
theorem d_md_tick_1 : decode m_md_tick.2.1 1 = .ok (.iconst 0, 1) := by decide +kernel
theorem d_md_tick_2 : decode m_md_tick.2.1 2 = .ok (.putfield 84, 3) := by decide +kernel
theorem d_md_tick_5 : decode m_md_tick.2.1 5 = .ok (.aload_n 0, 1) := by decide +kernel
theorem d_md_tick_6 : decode m_md_tick.2.1 6 = .ok (.iload_n 1, 1) := by decide +kernel
theorem d_md_tick_7 : decode m_md_tick.2.1 7 = .ok (.bipush 21, 2) := by decide +kernel
theorem d_md_tick_9 : decode m_md_tick.2.1 9 = .ok (.invokevirtual 145, 3) := by decide +kernel
theorem d_md_tick_12 : decode m_md_tick.2.1 12 = .ok (.ifCond .eq (9), 3) := by decide +kernel
theorem d_md_tick_15 : decode m_md_tick.2.1 15 = .ok (.aload_n 0, 1) := by decide +kernel
theorem d_md_tick_16 : decode m_md_tick.2.1 16 = .ok (.iconst 1, 1) := by decide +kernel
theorem d_md_tick_17 : decode m_md_tick.2.1 17 = .ok (.invokevirtual 149, 3) := by decide +kernel
theorem d_md_tick_20 : decode m_md_tick.2.1 20 = .ok (.ireturn, 1) := by decide +kernel
theorem d_md_tick_21 : decode m_md_tick.2.1 21 = .ok (.aload_n 0, 1) := by decide +kernel
theorem d_md_tick_22 : decode m_md_tick.2.1 22 = .ok (.dup, 1) := by decide +kernel
theorem d_md_tick_23 : decode m_md_tick.2.1 23 = .ok (.getfield 152, 3) := by decide +kernel
theorem d_md_tick_26 : decode m_md_tick.2.1 26 = .ok (.iload_n 1, 1) := by decide +kernel
theorem d_md_tick_27 : decode m_md_tick.2.1 27 = .ok (.iadd, 1) := by decide +kernel
theorem d_md_tick_28 : decode m_md_tick.2.1 28 = .ok (.putfield 152, 3) := by decide +kernel
theorem d_md_tick_31 : decode m_md_tick.2.1 31 = .ok (.iconst 0, 1) := by decide +kernel
theorem d_md_tick_32 : decode m_md_tick.2.1 32 = .ok (.istore_n 2, 1) := by decide +kernel
theorem d_md_tick_33 : decode m_md_tick.2.1 33 = .ok (.iconst 0, 1) := by decide +kernel
theorem d_md_tick_34 : decode m_md_tick.2.1 34 = .ok (.istore_n 3, 1) := by decide +kernel
theorem d_md_tick_35 : decode m_md_tick.2.1 35 = .ok (.iload_n 3, 1) := by decide +kernel
theorem d_md_tick_36 : decode m_md_tick.2.1 36 = .ok (.iconst 4, 1) := by decide +kernel
theorem d_md_tick_37 : decode m_md_tick.2.1 37 = .ok (.if_icmp .ge (46), 3) := by decide +kernel
theorem d_md_tick_40 : decode m_md_tick.2.1 40 = .ok (.aload_n 0, 1) := by decide +kernel
theorem d_md_tick_41 : decode m_md_tick.2.1 41 = .ok (.getfield 42, 3) := by decide +kernel
theorem d_md_tick_44 : decode m_md_tick.2.1 44 = .ok (.iload_n 3, 1) := by decide +kernel
theorem d_md_tick_45 : decode m_md_tick.2.1 45 = .ok (.baload, 1) := by decide +kernel
theorem d_md_tick_46 : decode m_md_tick.2.1 46 = .ok (.ifCond .eq (31), 3) := by decide +kernel
theorem d_md_tick_49 : decode m_md_tick.2.1 49 = .ok (.aload_n 0, 1) := by decide +kernel
theorem d_md_tick_50 : decode m_md_tick.2.1 50 = .ok (.getfield 54, 3) := by decide +kernel
theorem d_md_tick_53 : decode m_md_tick.2.1 53 = .ok (.iload_n 3, 1) := by decide +kernel
theorem d_md_tick_54 : decode m_md_tick.2.1 54 = .ok (.iaload, 1) := by decide +kernel
theorem d_md_tick_55 : decode m_md_tick.2.1 55 = .ok (.aload_n 0, 1) := by decide +kernel
theorem d_md_tick_56 : decode m_md_tick.2.1 56 = .ok (.getfield 51, 3) := by decide +kernel
theorem d_md_tick_59 : decode m_md_tick.2.1 59 = .ok (.iload_n 3, 1) := by decide +kernel
theorem d_md_tick_60 : decode m_md_tick.2.1 60 = .ok (.iaload, 1) := by decide +kernel
theorem d_md_tick_61 : decode m_md_tick.2.1 61 = .ok (.iadd, 1) := by decide +kernel
theorem d_md_tick_62 : decode m_md_tick.2.1 62 = .ok (.aload_n 0, 1) := by decide +kernel
theorem d_md_tick_63 : decode m_md_tick.2.1 63 = .ok (.getfield 152, 3) := by decide +kernel
theorem d_md_tick_66 : decode m_md_tick.2.1 66 = .ok (.if_icmp .gt (11), 3) := by decide +kernel
theorem d_md_tick_69 : decode m_md_tick.2.1 69 = .ok (.aload_n 0, 1) := by decide +kernel
theorem d_md_tick_70 : decode m_md_tick.2.1 70 = .ok (.iload_n 3, 1) := by decide +kernel
theorem d_md_tick_71 : decode m_md_tick.2.1 71 = .ok (.invokevirtual 161, 3) := by decide +kernel
theorem d_md_tick_74 : decode m_md_tick.2.1 74 = .ok (.iinc 2 1, 3) := by decide +kernel
theorem d_md_tick_77 : decode m_md_tick.2.1 77 = .ok (.iinc 3 1, 3) := by decide +kernel
theorem d_md_tick_80 : decode m_md_tick.2.1 80 = .ok (.goto (-45), 3) := by decide +kernel
theorem d_md_tick_83 : decode m_md_tick.2.1 83 = .ok (.aload_n 0, 1) := by decide +kernel
theorem d_md_tick_84 : decode m_md_tick.2.1 84 = .ok (.iload_n 2, 1) := by decide +kernel
theorem d_md_tick_85 : decode m_md_tick.2.1 85 = .ok (.invokevirtual 155, 3) := by decide +kernel
theorem d_md_tick_88 : decode m_md_tick.2.1 88 = .ok (.ireturn, 1) := by decide +kernel
theorem d_md_state_0 : decode m_md_state.2.1 0 = .ok (.aload_n 0, 1) := by decide +kernel
theorem d_md_state_1 : decode m_md_state.2.1 1 = .ok (.iconst 0, 1) := by decide +kernel
theorem d_md_state_2 : decode m_md_state.2.1 2 = .ok (.putfield 84, 3) := by decide +kernel
theorem d_md_state_5 : decode m_md_state.2.1 5 = .ok (.aload_n 0, 1) := by decide +kernel
theorem d_md_state_6 : decode m_md_state.2.1 6 = .ok (.iload_n 1, 1) := by decide +kernel
theorem d_md_state_7 : decode m_md_state.2.1 7 = .ok (.iconst 3, 1) := by decide +kernel
theorem d_md_state_8 : decode m_md_state.2.1 8 = .ok (.invokevirtual 145, 3) := by decide +kernel
theorem d_md_state_11 : decode m_md_state.2.1 11 = .ok (.ifCond .ne (13), 3) := by decide +kernel
theorem d_md_state_14 : decode m_md_state.2.1 14 = .ok (.aload_n 0, 1) := by decide +kernel
theorem d_md_state_15 : decode m_md_state.2.1 15 = .ok (.iload_n 2, 1) := by decide +kernel
theorem d_md_state_16 : decode m_md_state.2.1 16 = .ok (.bipush 6, 2) := by decide +kernel
theorem d_md_state_18 : decode m_md_state.2.1 18 = .ok (.invokevirtual 145, 3) := by decide +kernel
theorem d_md_state_21 : decode m_md_state.2.1 21 = .ok (.ifCond .eq (9), 3) := by decide +kernel
theorem d_md_state_24 : decode m_md_state.2.1 24 = .ok (.aload_n 0, 1) := by decide +kernel
theorem d_md_state_25 : decode m_md_state.2.1 25 = .ok (.iconst 1, 1) := by decide +kernel
theorem d_md_state_26 : decode m_md_state.2.1 26 = .ok (.invokevirtual 149, 3) := by decide +kernel
theorem d_md_state_29 : decode m_md_state.2.1 29 = .ok (.ireturn, 1) := by decide +kernel
theorem d_md_state_30 : decode m_md_state.2.1 30 = .ok (.iconst 0, 1) := by decide +kernel
theorem d_md_state_31 : decode m_md_state.2.1 31 = .ok (.istore_n 3, 1) := by decide +kernel
theorem d_md_state_32 : decode m_md_state.2.1 32 = .ok (.aload_n 0, 1) := by decide +kernel
theorem d_md_state_33 : decode m_md_state.2.1 33 = .ok (.iload_n 1, 1) := by decide +kernel
theorem d_md_state_34 : decode m_md_state.2.1 34 = .ok (.aload_n 0, 1) := by decide +kernel
theorem d_md_state_35 : decode m_md_state.2.1 35 = .ok (.getfield 25, 3) := by decide +kernel
theorem d_md_state_38 : decode m_md_state.2.1 38 = .ok (.iload_n 1, 1) := by decide +kernel
theorem d_md_state_39 : decode m_md_state.2.1 39 = .ok (.iaload, 1) := by decide +kernel
theorem d_md_state_40 : decode m_md_state.2.1 40 = .ok (.invokevirtual 122, 3) := by decide +kernel
theorem d_md_state_43 : decode m_md_state.2.1 43 = .ok (.iconst 0, 1) := by decide +kernel
theorem d_md_state_44 : decode m_md_state.2.1 44 = .ok (.istore 4, 2) := by decide +kernel
theorem d_md_state_46 : decode m_md_state.2.1 46 = .ok (.iload 4, 2) := by decide +kernel
theorem d_md_state_48 : decode m_md_state.2.1 48 = .ok (.sipush 259, 3) := by decide +kernel
theorem d_md_state_51 : decode m_md_state.2.1 51 = .ok (.if_icmp .ge (27), 3) := by decide +kernel
theorem d_md_state_54 : decode m_md_state.2.1 54 = .ok (.iload_n 3, 1) := by decide +kernel
theorem d_md_state_55 : decode m_md_state.2.1 55 = .ok (.aload_n 0, 1) := by decide +kernel
theorem d_md_state_56 : decode m_md_state.2.1 56 = .ok (.getfield 69, 3) := by decide +kernel
theorem d_md_state_59 : decode m_md_state.2.1 59 = .ok (.iload 4, 2) := by decide +kernel
theorem d_md_state_61 : decode m_md_state.2.1 61 = .ok (.baload, 1) := by decide +kernel
theorem d_md_state_62 : decode m_md_state.2.1 62 = .ok (.ifCond .eq (7), 3) := by decide +kernel
theorem d_md_state_65 : decode m_md_state.2.1 65 = .ok (.iconst 1, 1) := by decide +kernel
theorem d_md_state_66 : decode m_md_state.2.1 66 = .ok (.goto 4, 3) := by decide +kernel
theorem d_md_state_69 : decode m_md_state.2.1 69 = .ok (.iconst 0, 1) := by decide +kernel
theorem d_md_state_70 : decode m_md_state.2.1 70 = .ok (.iadd, 1) := by decide +kernel
theorem d_md_state_71 : decode m_md_state.2.1 71 = .ok (.istore_n 3, 1) := by decide +kernel
theorem d_md_state_72 : decode m_md_state.2.1 72 = .ok (.iinc 4 1, 3) := by decide +kernel
theorem d_md_state_75 : decode m_md_state.2.1 75 = .ok (.goto (-29), 3) := by decide +kernel
theorem d_md_state_78 : decode m_md_state.2.1 78 = .ok (.iload_n 2, 1) := by decide +kernel
theorem d_md_state_79 : decode m_md_state.2.1 79 = .ok (.tableswitch (78) (0) (4) #[33, 40, 47, 62, 76], 33) := by decide +kernel
theorem d_md_state_112 : decode m_md_state.2.1 112 = .ok (.aload_n 0, 1) := by decide +kernel
theorem d_md_state_113 : decode m_md_state.2.1 113 = .ok (.getfield 22, 3) := by decide +kernel
theorem d_md_state_116 : decode m_md_state.2.1 116 = .ok (.iload_n 1, 1) := by decide +kernel
theorem d_md_state_117 : decode m_md_state.2.1 117 = .ok (.iaload, 1) := by decide +kernel
theorem d_md_state_118 : decode m_md_state.2.1 118 = .ok (.ireturn, 1) := by decide +kernel
theorem d_md_state_119 : decode m_md_state.2.1 119 = .ok (.aload_n 0, 1) := by decide +kernel
theorem d_md_state_120 : decode m_md_state.2.1 120 = .ok (.getfield 25, 3) := by decide +kernel
theorem d_md_state_123 : decode m_md_state.2.1 123 = .ok (.iload_n 1, 1) := by decide +kernel
theorem d_md_state_124 : decode m_md_state.2.1 124 = .ok (.iaload, 1) := by decide +kernel
theorem d_md_state_125 : decode m_md_state.2.1 125 = .ok (.ireturn, 1) := by decide +kernel
theorem d_md_state_126 : decode m_md_state.2.1 126 = .ok (.aload_n 0, 1) := by decide +kernel
theorem d_md_state_127 : decode m_md_state.2.1 127 = .ok (.getfield 31, 3) := by decide +kernel
theorem d_md_state_130 : decode m_md_state.2.1 130 = .ok (.iload_n 1, 1) := by decide +kernel
theorem d_md_state_131 : decode m_md_state.2.1 131 = .ok (.baload, 1) := by decide +kernel
theorem d_md_state_132 : decode m_md_state.2.1 132 = .ok (.ifCond .eq (7), 3) := by decide +kernel
theorem d_md_state_135 : decode m_md_state.2.1 135 = .ok (.iconst 0, 1) := by decide +kernel
theorem d_md_state_136 : decode m_md_state.2.1 136 = .ok (.goto 4, 3) := by decide +kernel
theorem d_md_state_139 : decode m_md_state.2.1 139 = .ok (.iconst 1, 1) := by decide +kernel
theorem d_md_state_140 : decode m_md_state.2.1 140 = .ok (.ireturn, 1) := by decide +kernel
theorem d_md_state_141 : decode m_md_state.2.1 141 = .ok (.aload_n 0, 1) := by decide +kernel
theorem d_md_state_142 : decode m_md_state.2.1 142 = .ok (.iload_n 1, 1) := by decide +kernel
theorem d_md_state_143 : decode m_md_state.2.1 143 = .ok (.invokevirtual 112, 3) := by decide +kernel
theorem d_md_state_146 : decode m_md_state.2.1 146 = .ok (.ifCond .eq (7), 3) := by decide +kernel
theorem d_md_state_149 : decode m_md_state.2.1 149 = .ok (.iconst 1, 1) := by decide +kernel
theorem d_md_state_150 : decode m_md_state.2.1 150 = .ok (.goto 4, 3) := by decide +kernel
theorem d_md_state_153 : decode m_md_state.2.1 153 = .ok (.iconst 0, 1) := by decide +kernel
theorem d_md_state_154 : decode m_md_state.2.1 154 = .ok (.ireturn, 1) := by decide +kernel
theorem d_md_state_155 : decode m_md_state.2.1 155 = .ok (.iload_n 3, 1) := by decide +kernel
theorem d_md_state_156 : decode m_md_state.2.1 156 = .ok (.ireturn, 1) := by decide +kernel
theorem d_md_state_157 : decode m_md_state.2.1 157 = .ok (.aload_n 0, 1) := by decide +kernel
theorem d_md_state_158 : decode m_md_state.2.1 158 = .ok (.getfield 28, 3) := by decide +kernel
theorem d_md_state_161 : decode m_md_state.2.1 161 = .ok (.iload_n 1, 1) := by decide +kernel
theorem d_md_state_162 : decode m_md_state.2.1 162 = .ok (.iaload, 1) := by decide +kernel
theorem d_md_state_163 : decode m_md_state.2.1 163 = .ok (.ireturn, 1) := by decide +kernel
theorem d_md_count_0 : decode m_md_count.2.1 0 = .ok (.aload_n 0, 1) := by decide +kernel
theorem d_md_count_1 : decode m_md_count.2.1 1 = .ok (.iconst 0, 1) := by decide +kernel
theorem d_md_count_2 : decode m_md_count.2.1 2 = .ok (.putfield 84, 3) := by decide +kernel
theorem d_md_count_5 : decode m_md_count.2.1 5 = .ok (.aload_n 0, 1) := by decide +kernel
theorem d_md_count_6 : decode m_md_count.2.1 6 = .ok (.iload_n 1, 1) := by decide +kernel
theorem d_md_count_7 : decode m_md_count.2.1 7 = .ok (.bipush 8, 2) := by decide +kernel
theorem d_md_count_9 : decode m_md_count.2.1 9 = .ok (.invokevirtual 145, 3) := by decide +kernel
theorem d_md_count_12 : decode m_md_count.2.1 12 = .ok (.ifCond .eq (9), 3) := by decide +kernel
theorem d_md_count_15 : decode m_md_count.2.1 15 = .ok (.aload_n 0, 1) := by decide +kernel
theorem d_md_count_16 : decode m_md_count.2.1 16 = .ok (.iconst 1, 1) := by decide +kernel
theorem d_md_count_17 : decode m_md_count.2.1 17 = .ok (.invokevirtual 149, 3) := by decide +kernel
theorem d_md_count_20 : decode m_md_count.2.1 20 = .ok (.ireturn, 1) := by decide +kernel
theorem d_md_count_21 : decode m_md_count.2.1 21 = .ok (.iload_n 1, 1) := by decide +kernel
theorem d_md_count_22 : decode m_md_count.2.1 22 = .ok (.ifCond .ne (8), 3) := by decide +kernel
theorem d_md_count_25 : decode m_md_count.2.1 25 = .ok (.aload_n 0, 1) := by decide +kernel
theorem d_md_count_26 : decode m_md_count.2.1 26 = .ok (.getfield 152, 3) := by decide +kernel
theorem d_md_count_29 : decode m_md_count.2.1 29 = .ok (.ireturn, 1) := by decide +kernel
theorem d_md_count_30 : decode m_md_count.2.1 30 = .ok (.iload_n 1, 1) := by decide +kernel
theorem d_md_count_31 : decode m_md_count.2.1 31 = .ok (.iconst 1, 1) := by decide +kernel
theorem d_md_count_32 : decode m_md_count.2.1 32 = .ok (.if_icmp .ne (8), 3) := by decide +kernel
theorem d_md_count_35 : decode m_md_count.2.1 35 = .ok (.aload_n 0, 1) := by decide +kernel
theorem d_md_count_36 : decode m_md_count.2.1 36 = .ok (.getfield 105, 3) := by decide +kernel
theorem d_md_count_39 : decode m_md_count.2.1 39 = .ok (.ireturn, 1) := by decide +kernel
theorem d_md_count_40 : decode m_md_count.2.1 40 = .ok (.iload_n 1, 1) := by decide +kernel
theorem d_md_count_41 : decode m_md_count.2.1 41 = .ok (.iconst 2, 1) := by decide +kernel
theorem d_md_count_42 : decode m_md_count.2.1 42 = .ok (.if_icmp .ne (8), 3) := by decide +kernel
theorem d_md_count_45 : decode m_md_count.2.1 45 = .ok (.aload_n 0, 1) := by decide +kernel
theorem d_md_count_46 : decode m_md_count.2.1 46 = .ok (.getfield 38, 3) := by decide +kernel
theorem d_md_count_49 : decode m_md_count.2.1 49 = .ok (.ireturn, 1) := by decide +kernel
theorem d_md_count_50 : decode m_md_count.2.1 50 = .ok (.iload_n 1, 1) := by decide +kernel
theorem d_md_count_51 : decode m_md_count.2.1 51 = .ok (.iconst 3, 1) := by decide +kernel
theorem d_md_count_52 : decode m_md_count.2.1 52 = .ok (.if_icmp .ne (16), 3) := by decide +kernel
theorem d_md_count_55 : decode m_md_count.2.1 55 = .ok (.aload_n 0, 1) := by decide +kernel
theorem d_md_count_56 : decode m_md_count.2.1 56 = .ok (.invokevirtual 118, 3) := by decide +kernel
theorem d_md_count_59 : decode m_md_count.2.1 59 = .ok (.ifCond .eq (7), 3) := by decide +kernel
theorem d_md_count_62 : decode m_md_count.2.1 62 = .ok (.iconst 1, 1) := by decide +kernel
theorem d_md_count_63 : decode m_md_count.2.1 63 = .ok (.goto 4, 3) := by decide +kernel
theorem d_md_count_66 : decode m_md_count.2.1 66 = .ok (.iconst 0, 1) := by decide +kernel
theorem d_md_count_67 : decode m_md_count.2.1 67 = .ok (.ireturn, 1) := by decide +kernel
theorem d_md_count_68 : decode m_md_count.2.1 68 = .ok (.aload_n 0, 1) := by decide +kernel
theorem d_md_count_69 : decode m_md_count.2.1 69 = .ok (.getfield 42, 3) := by decide +kernel
theorem d_md_count_72 : decode m_md_count.2.1 72 = .ok (.iload_n 1, 1) := by decide +kernel
theorem d_md_count_73 : decode m_md_count.2.1 73 = .ok (.iconst 4, 1) := by decide +kernel
theorem d_md_count_74 : decode m_md_count.2.1 74 = .ok (.isub, 1) := by decide +kernel
theorem d_md_count_75 : decode m_md_count.2.1 75 = .ok (.baload, 1) := by decide +kernel
theorem d_md_count_76 : decode m_md_count.2.1 76 = .ok (.ifCond .eq (7), 3) := by decide +kernel
theorem d_md_count_79 : decode m_md_count.2.1 79 = .ok (.iconst 1, 1) := by decide +kernel
theorem d_md_count_80 : decode m_md_count.2.1 80 = .ok (.goto 19, 3) := by decide +kernel
theorem d_md_count_83 : decode m_md_count.2.1 83 = .ok (.aload_n 0, 1) := by decide +kernel
theorem d_md_count_84 : decode m_md_count.2.1 84 = .ok (.getfield 45, 3) := by decide +kernel
theorem d_md_count_87 : decode m_md_count.2.1 87 = .ok (.iload_n 1, 1) := by decide +kernel
theorem d_md_count_88 : decode m_md_count.2.1 88 = .ok (.iconst 4, 1) := by decide +kernel
theorem d_md_count_89 : decode m_md_count.2.1 89 = .ok (.isub, 1) := by decide +kernel
theorem d_md_count_90 : decode m_md_count.2.1 90 = .ok (.baload, 1) := by decide +kernel
theorem d_md_count_91 : decode m_md_count.2.1 91 = .ok (.ifCond .eq (7), 3) := by decide +kernel
theorem d_md_count_94 : decode m_md_count.2.1 94 = .ok (.iconst 2, 1) := by decide +kernel
theorem d_md_count_95 : decode m_md_count.2.1 95 = .ok (.goto 4, 3) := by decide +kernel
theorem d_md_count_98 : decode m_md_count.2.1 98 = .ok (.iconst 0, 1) := by decide +kernel
theorem d_md_count_99 : decode m_md_count.2.1 99 = .ok (.ireturn, 1) := by decide +kernel
