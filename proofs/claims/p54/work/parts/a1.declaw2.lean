theorem dL_draw_0 : decode cL_draw 0 = .ok (.aload_n 0, 1) := by decide +kernel
theorem dL_draw_1 : decode cL_draw 1 = .ok (.bipush 7, 2) := by decide +kernel
theorem dL_draw_3 : decode cL_draw 3 = .ok (.aload_n 0, 1) := by decide +kernel
theorem dL_draw_4 : decode cL_draw 4 = .ok (.bipush 7, 2) := by decide +kernel
theorem dL_draw_6 : decode cL_draw 6 = .ok (.iaload, 1) := by decide +kernel
theorem dL_draw_7 : decode cL_draw 7 = .ok (.ldc 7, 2) := by decide +kernel
theorem dL_draw_9 : decode cL_draw 9 = .ok (.imul, 1) := by decide +kernel
theorem dL_draw_10 : decode cL_draw 10 = .ok (.sipush 12345, 3) := by decide +kernel
theorem dL_draw_13 : decode cL_draw 13 = .ok (.iadd, 1) := by decide +kernel
theorem dL_draw_14 : decode cL_draw 14 = .ok (.iastore, 1) := by decide +kernel
theorem dL_draw_15 : decode cL_draw 15 = .ok (.aload_n 0, 1) := by decide +kernel
theorem dL_draw_16 : decode cL_draw 16 = .ok (.bipush 7, 2) := by decide +kernel
theorem dL_draw_18 : decode cL_draw 18 = .ok (.iaload, 1) := by decide +kernel
theorem dL_draw_19 : decode cL_draw 19 = .ok (.bipush 16, 2) := by decide +kernel
theorem dL_draw_21 : decode cL_draw 21 = .ok (.ishr, 1) := by decide +kernel
theorem dL_draw_22 : decode cL_draw 22 = .ok (.sipush 32767, 3) := by decide +kernel
theorem dL_draw_25 : decode cL_draw 25 = .ok (.iand, 1) := by decide +kernel
theorem dL_draw_26 : decode cL_draw 26 = .ok (.ireturn, 1) := by decide +kernel
theorem dL_write_0 : decode cL_write 0 = .ok (.aload_n 0, 1) := by decide +kernel
theorem dL_write_1 : decode cL_write 1 = .ok (.aload_n 0, 1) := by decide +kernel
theorem dL_write_2 : decode cL_write 2 = .ok (.invokevirtual 8, 3) := by decide +kernel
theorem dL_write_5 : decode cL_write 5 = .ok (.invokevirtual 14, 3) := by decide +kernel
theorem dL_write_8 : decode cL_write 8 = .ok (.istore_n 2, 1) := by decide +kernel
theorem dL_write_9 : decode cL_write 9 = .ok (.iconst 0, 1) := by decide +kernel
theorem dL_write_10 : decode cL_write 10 = .ok (.istore_n 3, 1) := by decide +kernel
theorem dL_write_11 : decode cL_write 11 = .ok (.iload_n 3, 1) := by decide +kernel
theorem dL_write_12 : decode cL_write 12 = .ok (.aload_n 1, 1) := by decide +kernel
theorem dL_write_13 : decode cL_write 13 = .ok (.invokevirtual 18, 3) := by decide +kernel
theorem dL_write_16 : decode cL_write 16 = .ok (.if_icmp .ge 101, 3) := by decide +kernel
theorem dL_write_19 : decode cL_write 19 = .ok (.iconst 5, 1) := by decide +kernel
theorem dL_write_20 : decode cL_write 20 = .ok (.newarray .int, 2) := by decide +kernel
theorem dL_write_22 : decode cL_write 22 = .ok (.astore 4, 2) := by decide +kernel
theorem dL_write_24 : decode cL_write 24 = .ok (.iconst 0, 1) := by decide +kernel
theorem dL_write_25 : decode cL_write 25 = .ok (.istore 5, 2) := by decide +kernel
theorem dL_write_27 : decode cL_write 27 = .ok (.iload 5, 2) := by decide +kernel
theorem dL_write_29 : decode cL_write 29 = .ok (.bipush 20, 2) := by decide +kernel
theorem dL_write_31 : decode cL_write 31 = .ok (.if_icmp .ge 55, 3) := by decide +kernel
theorem dL_write_34 : decode cL_write 34 = .ok (.iload_n 3, 1) := by decide +kernel
theorem dL_write_35 : decode cL_write 35 = .ok (.iload 5, 2) := by decide +kernel
theorem dL_write_37 : decode cL_write 37 = .ok (.iadd, 1) := by decide +kernel
theorem dL_write_38 : decode cL_write 38 = .ok (.aload_n 1, 1) := by decide +kernel
theorem dL_write_39 : decode cL_write 39 = .ok (.invokevirtual 18, 3) := by decide +kernel
theorem dL_write_42 : decode cL_write 42 = .ok (.if_icmp .ge 14, 3) := by decide +kernel
theorem dL_write_45 : decode cL_write 45 = .ok (.aload_n 1, 1) := by decide +kernel
theorem dL_write_46 : decode cL_write 46 = .ok (.iload_n 3, 1) := by decide +kernel
theorem dL_write_47 : decode cL_write 47 = .ok (.iload 5, 2) := by decide +kernel
theorem dL_write_49 : decode cL_write 49 = .ok (.iadd, 1) := by decide +kernel
theorem dL_write_50 : decode cL_write 50 = .ok (.invokevirtual 23, 3) := by decide +kernel
theorem dL_write_53 : decode cL_write 53 = .ok (.goto 5, 3) := by decide +kernel
theorem dL_write_56 : decode cL_write 56 = .ok (.bipush 32, 2) := by decide +kernel
theorem dL_write_58 : decode cL_write 58 = .ok (.istore 6, 2) := by decide +kernel
theorem dL_write_60 : decode cL_write 60 = .ok (.aload 4, 2) := by decide +kernel
theorem dL_write_62 : decode cL_write 62 = .ok (.iload 5, 2) := by decide +kernel
theorem dL_write_64 : decode cL_write 64 = .ok (.iconst 4, 1) := by decide +kernel
theorem dL_write_65 : decode cL_write 65 = .ok (.idiv, 1) := by decide +kernel
theorem dL_write_66 : decode cL_write 66 = .ok (.aload 4, 2) := by decide +kernel
theorem dL_write_68 : decode cL_write 68 = .ok (.iload 5, 2) := by decide +kernel
theorem dL_write_70 : decode cL_write 70 = .ok (.iconst 4, 1) := by decide +kernel
theorem dL_write_71 : decode cL_write 71 = .ok (.idiv, 1) := by decide +kernel
theorem dL_write_72 : decode cL_write 72 = .ok (.iaload, 1) := by decide +kernel
theorem dL_write_73 : decode cL_write 73 = .ok (.bipush 8, 2) := by decide +kernel
theorem dL_write_75 : decode cL_write 75 = .ok (.ishl, 1) := by decide +kernel
theorem dL_write_76 : decode cL_write 76 = .ok (.iload 6, 2) := by decide +kernel
theorem dL_write_78 : decode cL_write 78 = .ok (.ior, 1) := by decide +kernel
theorem dL_write_79 : decode cL_write 79 = .ok (.iastore, 1) := by decide +kernel
theorem dL_write_80 : decode cL_write 80 = .ok (.iinc 5 1, 3) := by decide +kernel
theorem dL_write_83 : decode cL_write 83 = .ok (.goto (-56), 3) := by decide +kernel
theorem dL_write_86 : decode cL_write 86 = .ok (.aload_n 0, 1) := by decide +kernel
theorem dL_write_87 : decode cL_write 87 = .ok (.aload 4, 2) := by decide +kernel
theorem dL_write_89 : decode cL_write 89 = .ok (.iconst 0, 1) := by decide +kernel
theorem dL_write_90 : decode cL_write 90 = .ok (.iaload, 1) := by decide +kernel
theorem dL_write_91 : decode cL_write 91 = .ok (.aload 4, 2) := by decide +kernel
theorem dL_write_93 : decode cL_write 93 = .ok (.iconst 1, 1) := by decide +kernel
theorem dL_write_94 : decode cL_write 94 = .ok (.iaload, 1) := by decide +kernel
theorem dL_write_95 : decode cL_write 95 = .ok (.aload 4, 2) := by decide +kernel
theorem dL_write_97 : decode cL_write 97 = .ok (.iconst 2, 1) := by decide +kernel
theorem dL_write_98 : decode cL_write 98 = .ok (.iaload, 1) := by decide +kernel
theorem dL_write_99 : decode cL_write 99 = .ok (.aload 4, 2) := by decide +kernel
theorem dL_write_101 : decode cL_write 101 = .ok (.iconst 3, 1) := by decide +kernel
theorem dL_write_102 : decode cL_write 102 = .ok (.iaload, 1) := by decide +kernel
theorem dL_write_103 : decode cL_write 103 = .ok (.aload 4, 2) := by decide +kernel
theorem dL_write_105 : decode cL_write 105 = .ok (.iconst 4, 1) := by decide +kernel
theorem dL_write_106 : decode cL_write 106 = .ok (.iaload, 1) := by decide +kernel
theorem dL_write_107 : decode cL_write 107 = .ok (.invokevirtual 27, 3) := by decide +kernel
theorem dL_write_110 : decode cL_write 110 = .ok (.istore_n 2, 1) := by decide +kernel
theorem dL_write_111 : decode cL_write 111 = .ok (.iinc 3 20, 3) := by decide +kernel
theorem dL_write_114 : decode cL_write 114 = .ok (.goto (-103), 3) := by decide +kernel
theorem dL_write_117 : decode cL_write 117 = .ok (.aload_n 0, 1) := by decide +kernel
theorem dL_write_118 : decode cL_write 118 = .ok (.bipush 20, 2) := by decide +kernel
theorem dL_write_120 : decode cL_write 120 = .ok (.aload_n 1, 1) := by decide +kernel
theorem dL_write_121 : decode cL_write 121 = .ok (.invokevirtual 18, 3) := by decide +kernel
theorem dL_write_124 : decode cL_write 124 = .ok (.bipush 20, 2) := by decide +kernel
theorem dL_write_126 : decode cL_write 126 = .ok (.irem, 1) := by decide +kernel
theorem dL_write_127 : decode cL_write 127 = .ok (.isub, 1) := by decide +kernel
theorem dL_write_128 : decode cL_write 128 = .ok (.bipush 20, 2) := by decide +kernel
theorem dL_write_130 : decode cL_write 130 = .ok (.irem, 1) := by decide +kernel
theorem dL_write_131 : decode cL_write 131 = .ok (.invokevirtual 14, 3) := by decide +kernel
theorem dL_write_134 : decode cL_write 134 = .ok (.istore_n 2, 1) := by decide +kernel
theorem dL_write_135 : decode cL_write 135 = .ok (.return_, 1) := by decide +kernel
theorem dL_loads_0 : decode cL_loads 0 = .ok (.aload_n 0, 1) := by decide +kernel
theorem dL_loads_1 : decode cL_loads 1 = .ok (.aload_n 1, 1) := by decide +kernel
theorem dL_loads_2 : decode cL_loads 2 = .ok (.invokestatic 31, 3) := by decide +kernel
theorem dL_loads_5 : decode cL_loads 5 = .ok (.aload_n 0, 1) := by decide +kernel
theorem dL_loads_6 : decode cL_loads 6 = .ok (.invokevirtual 37, 3) := by decide +kernel
theorem dL_loads_9 : decode cL_loads 9 = .ok (.aload_n 0, 1) := by decide +kernel
theorem dL_loads_10 : decode cL_loads 10 = .ok (.iconst 2, 1) := by decide +kernel
theorem dL_loads_11 : decode cL_loads 11 = .ok (.invokevirtual 40, 3) := by decide +kernel
theorem dL_loads_14 : decode cL_loads 14 = .ok (.if_icmp .ne 23, 3) := by decide +kernel
theorem dL_loads_17 : decode cL_loads 17 = .ok (.aload_n 0, 1) := by decide +kernel
theorem dL_loads_18 : decode cL_loads 18 = .ok (.invokevirtual 43, 3) := by decide +kernel
theorem dL_loads_21 : decode cL_loads 21 = .ok (.bipush (-2), 2) := by decide +kernel
theorem dL_loads_23 : decode cL_loads 23 = .ok (.if_icmp .ne 14, 3) := by decide +kernel
theorem dL_loads_26 : decode cL_loads 26 = .ok (.aload_n 0, 1) := by decide +kernel
theorem dL_loads_27 : decode cL_loads 27 = .ok (.invokevirtual 8, 3) := by decide +kernel
theorem dL_loads_30 : decode cL_loads 30 = .ok (.ifCond .ne 7, 3) := by decide +kernel
theorem dL_loads_33 : decode cL_loads 33 = .ok (.iconst 1, 1) := by decide +kernel
theorem dL_loads_34 : decode cL_loads 34 = .ok (.goto 4, 3) := by decide +kernel
theorem dL_loads_37 : decode cL_loads 37 = .ok (.iconst 0, 1) := by decide +kernel
theorem dL_loads_38 : decode cL_loads 38 = .ok (.ireturn, 1) := by decide +kernel
theorem dL_setup_0 : decode cL_setup 0 = .ok (.new 46, 3) := by decide +kernel
theorem dL_setup_3 : decode cL_setup 3 = .ok (.dup, 1) := by decide +kernel
theorem dL_setup_4 : decode cL_setup 4 = .ok (.ldc 48, 2) := by decide +kernel
theorem dL_setup_6 : decode cL_setup 6 = .ok (.invokespecial 50, 3) := by decide +kernel
theorem dL_setup_9 : decode cL_setup 9 = .ok (.iconst 3, 1) := by decide +kernel
theorem dL_setup_10 : decode cL_setup 10 = .ok (.aload_n 0, 1) := by decide +kernel
theorem dL_setup_11 : decode cL_setup 11 = .ok (.invokestatic 53, 3) := by decide +kernel
theorem dL_setup_14 : decode cL_setup 14 = .ok (.bipush 20, 2) := by decide +kernel
theorem dL_setup_16 : decode cL_setup 16 = .ok (.irem, 1) := by decide +kernel
theorem dL_setup_17 : decode cL_setup 17 = .ok (.iadd, 1) := by decide +kernel
theorem dL_setup_18 : decode cL_setup 18 = .ok (.invokevirtual 57, 3) := by decide +kernel
theorem dL_setup_21 : decode cL_setup 21 = .ok (.ldc 60, 2) := by decide +kernel
theorem dL_setup_23 : decode cL_setup 23 = .ok (.invokevirtual 62, 3) := by decide +kernel
theorem dL_setup_26 : decode cL_setup 26 = .ok (.aload_n 0, 1) := by decide +kernel
theorem dL_setup_27 : decode cL_setup 27 = .ok (.invokestatic 53, 3) := by decide +kernel
theorem dL_setup_30 : decode cL_setup 30 = .ok (.bipush 90, 2) := by decide +kernel
theorem dL_setup_32 : decode cL_setup 32 = .ok (.irem, 1) := by decide +kernel
theorem dL_setup_33 : decode cL_setup 33 = .ok (.invokevirtual 57, 3) := by decide +kernel
theorem dL_setup_36 : decode cL_setup 36 = .ok (.bipush 32, 2) := by decide +kernel
theorem dL_setup_38 : decode cL_setup 38 = .ok (.invokevirtual 65, 3) := by decide +kernel
theorem dL_setup_41 : decode cL_setup 41 = .ok (.aload_n 0, 1) := by decide +kernel
theorem dL_setup_42 : decode cL_setup 42 = .ok (.invokestatic 53, 3) := by decide +kernel
theorem dL_setup_45 : decode cL_setup 45 = .ok (.bipush 90, 2) := by decide +kernel
theorem dL_setup_47 : decode cL_setup 47 = .ok (.irem, 1) := by decide +kernel
theorem dL_setup_48 : decode cL_setup 48 = .ok (.invokevirtual 57, 3) := by decide +kernel
theorem dL_setup_51 : decode cL_setup 51 = .ok (.bipush 32, 2) := by decide +kernel
theorem dL_setup_53 : decode cL_setup 53 = .ok (.invokevirtual 65, 3) := by decide +kernel
theorem dL_setup_56 : decode cL_setup 56 = .ok (.aload_n 0, 1) := by decide +kernel
theorem dL_setup_57 : decode cL_setup 57 = .ok (.invokestatic 53, 3) := by decide +kernel
theorem dL_setup_60 : decode cL_setup 60 = .ok (.bipush 90, 2) := by decide +kernel
theorem dL_setup_62 : decode cL_setup 62 = .ok (.irem, 1) := by decide +kernel
theorem dL_setup_63 : decode cL_setup 63 = .ok (.invokevirtual 57, 3) := by decide +kernel
theorem dL_setup_66 : decode cL_setup 66 = .ok (.bipush 32, 2) := by decide +kernel
theorem dL_setup_68 : decode cL_setup 68 = .ok (.invokevirtual 65, 3) := by decide +kernel
theorem dL_setup_71 : decode cL_setup 71 = .ok (.aload_n 0, 1) := by decide +kernel
theorem dL_setup_72 : decode cL_setup 72 = .ok (.invokestatic 53, 3) := by decide +kernel
theorem dL_setup_75 : decode cL_setup 75 = .ok (.bipush 90, 2) := by decide +kernel
theorem dL_setup_77 : decode cL_setup 77 = .ok (.irem, 1) := by decide +kernel
theorem dL_setup_78 : decode cL_setup 78 = .ok (.invokevirtual 57, 3) := by decide +kernel
theorem dL_setup_81 : decode cL_setup 81 = .ok (.ldc 68, 2) := by decide +kernel
theorem dL_setup_83 : decode cL_setup 83 = .ok (.invokevirtual 62, 3) := by decide +kernel
theorem dL_setup_86 : decode cL_setup 86 = .ok (.aload_n 0, 1) := by decide +kernel
theorem dL_setup_87 : decode cL_setup 87 = .ok (.invokestatic 53, 3) := by decide +kernel
theorem dL_setup_90 : decode cL_setup 90 = .ok (.iconst 3, 1) := by decide +kernel
theorem dL_setup_91 : decode cL_setup 91 = .ok (.irem, 1) := by decide +kernel
theorem dL_setup_92 : decode cL_setup 92 = .ok (.invokevirtual 57, 3) := by decide +kernel
theorem dL_setup_95 : decode cL_setup 95 = .ok (.ldc 70, 2) := by decide +kernel
theorem dL_setup_97 : decode cL_setup 97 = .ok (.invokevirtual 62, 3) := by decide +kernel
theorem dL_setup_100 : decode cL_setup 100 = .ok (.iconst 1, 1) := by decide +kernel
theorem dL_setup_101 : decode cL_setup 101 = .ok (.aload_n 0, 1) := by decide +kernel
theorem dL_setup_102 : decode cL_setup 102 = .ok (.invokestatic 53, 3) := by decide +kernel
theorem dL_setup_105 : decode cL_setup 105 = .ok (.iconst 4, 1) := by decide +kernel
theorem dL_setup_106 : decode cL_setup 106 = .ok (.irem, 1) := by decide +kernel
theorem dL_setup_107 : decode cL_setup 107 = .ok (.iadd, 1) := by decide +kernel
theorem dL_setup_108 : decode cL_setup 108 = .ok (.invokevirtual 57, 3) := by decide +kernel
theorem dL_setup_111 : decode cL_setup 111 = .ok (.ldc 72, 2) := by decide +kernel
theorem dL_setup_113 : decode cL_setup 113 = .ok (.invokevirtual 62, 3) := by decide +kernel
theorem dL_setup_116 : decode cL_setup 116 = .ok (.aload_n 0, 1) := by decide +kernel
theorem dL_setup_117 : decode cL_setup 117 = .ok (.invokestatic 53, 3) := by decide +kernel
theorem dL_setup_120 : decode cL_setup 120 = .ok (.iconst 3, 1) := by decide +kernel
theorem dL_setup_121 : decode cL_setup 121 = .ok (.irem, 1) := by decide +kernel
theorem dL_setup_122 : decode cL_setup 122 = .ok (.invokevirtual 57, 3) := by decide +kernel
theorem dL_setup_125 : decode cL_setup 125 = .ok (.ldc 74, 2) := by decide +kernel
theorem dL_setup_127 : decode cL_setup 127 = .ok (.invokevirtual 62, 3) := by decide +kernel
theorem dL_setup_130 : decode cL_setup 130 = .ok (.aload_n 0, 1) := by decide +kernel
theorem dL_setup_131 : decode cL_setup 131 = .ok (.invokestatic 53, 3) := by decide +kernel
theorem dL_setup_134 : decode cL_setup 134 = .ok (.bipush 6, 2) := by decide +kernel
theorem dL_setup_136 : decode cL_setup 136 = .ok (.irem, 1) := by decide +kernel
theorem dL_setup_137 : decode cL_setup 137 = .ok (.invokevirtual 57, 3) := by decide +kernel
theorem dL_setup_140 : decode cL_setup 140 = .ok (.ldc 76, 2) := by decide +kernel
theorem dL_setup_142 : decode cL_setup 142 = .ok (.invokevirtual 62, 3) := by decide +kernel
theorem dL_setup_145 : decode cL_setup 145 = .ok (.aload_n 0, 1) := by decide +kernel
theorem dL_setup_146 : decode cL_setup 146 = .ok (.invokestatic 53, 3) := by decide +kernel
theorem dL_setup_149 : decode cL_setup 149 = .ok (.iconst 3, 1) := by decide +kernel
theorem dL_setup_150 : decode cL_setup 150 = .ok (.irem, 1) := by decide +kernel
theorem dL_setup_151 : decode cL_setup 151 = .ok (.invokevirtual 57, 3) := by decide +kernel
theorem dL_setup_154 : decode cL_setup 154 = .ok (.ldc 78, 2) := by decide +kernel
theorem dL_setup_156 : decode cL_setup 156 = .ok (.invokevirtual 62, 3) := by decide +kernel
theorem dL_setup_159 : decode cL_setup 159 = .ok (.astore_n 1, 1) := by decide +kernel
theorem dL_setup_160 : decode cL_setup 160 = .ok (.aload_n 0, 1) := by decide +kernel
theorem dL_setup_161 : decode cL_setup 161 = .ok (.invokestatic 53, 3) := by decide +kernel
theorem dL_setup_164 : decode cL_setup 164 = .ok (.iconst 4, 1) := by decide +kernel
theorem dL_setup_165 : decode cL_setup 165 = .ok (.irem, 1) := by decide +kernel
theorem dL_setup_166 : decode cL_setup 166 = .ok (.istore_n 2, 1) := by decide +kernel
theorem dL_setup_167 : decode cL_setup 167 = .ok (.iconst 0, 1) := by decide +kernel
theorem dL_setup_168 : decode cL_setup 168 = .ok (.istore_n 3, 1) := by decide +kernel
theorem dL_setup_169 : decode cL_setup 169 = .ok (.iload_n 3, 1) := by decide +kernel
theorem dL_setup_170 : decode cL_setup 170 = .ok (.iload_n 2, 1) := by decide +kernel
theorem dL_setup_171 : decode cL_setup 171 = .ok (.if_icmp .ge 29, 3) := by decide +kernel
theorem dL_setup_174 : decode cL_setup 174 = .ok (.aload_n 1, 1) := by decide +kernel
theorem dL_setup_175 : decode cL_setup 175 = .ok (.ldc 80, 2) := by decide +kernel
theorem dL_setup_177 : decode cL_setup 177 = .ok (.invokevirtual 62, 3) := by decide +kernel
theorem dL_setup_180 : decode cL_setup 180 = .ok (.bipush 120, 2) := by decide +kernel
theorem dL_setup_182 : decode cL_setup 182 = .ok (.iload_n 3, 1) := by decide +kernel
theorem dL_setup_183 : decode cL_setup 183 = .ok (.iadd, 1) := by decide +kernel
theorem dL_setup_184 : decode cL_setup 184 = .ok (.i2c, 1) := by decide +kernel
theorem dL_setup_185 : decode cL_setup 185 = .ok (.invokevirtual 65, 3) := by decide +kernel
theorem dL_setup_188 : decode cL_setup 188 = .ok (.ldc 78, 2) := by decide +kernel
theorem dL_setup_190 : decode cL_setup 190 = .ok (.invokevirtual 62, 3) := by decide +kernel
theorem dL_setup_193 : decode cL_setup 193 = .ok (.pop, 1) := by decide +kernel
theorem dL_setup_194 : decode cL_setup 194 = .ok (.iinc 3 1, 3) := by decide +kernel
theorem dL_setup_197 : decode cL_setup 197 = .ok (.goto (-28), 3) := by decide +kernel
theorem dL_setup_200 : decode cL_setup 200 = .ok (.iconst 0, 1) := by decide +kernel
theorem dL_setup_201 : decode cL_setup 201 = .ok (.istore_n 3, 1) := by decide +kernel
theorem dL_setup_202 : decode cL_setup 202 = .ok (.iload_n 3, 1) := by decide +kernel
theorem dL_setup_203 : decode cL_setup 203 = .ok (.iconst 2, 1) := by decide +kernel
theorem dL_setup_204 : decode cL_setup 204 = .ok (.if_icmp .lt 19, 3) := by decide +kernel
theorem dL_setup_207 : decode cL_setup 207 = .ok (.iload_n 3, 1) := by decide +kernel
theorem dL_setup_208 : decode cL_setup 208 = .ok (.bipush 9, 2) := by decide +kernel
theorem dL_setup_210 : decode cL_setup 210 = .ok (.if_icmp .ge 88, 3) := by decide +kernel
theorem dL_setup_213 : decode cL_setup 213 = .ok (.aload_n 0, 1) := by decide +kernel
theorem dL_setup_214 : decode cL_setup 214 = .ok (.invokestatic 53, 3) := by decide +kernel
theorem dL_setup_217 : decode cL_setup 217 = .ok (.bipush 7, 2) := by decide +kernel
theorem dL_setup_219 : decode cL_setup 219 = .ok (.irem, 1) := by decide +kernel
theorem dL_setup_220 : decode cL_setup 220 = .ok (.ifCond .le 78, 3) := by decide +kernel
theorem dL_setup_223 : decode cL_setup 223 = .ok (.aload_n 1, 1) := by decide +kernel
theorem dL_setup_224 : decode cL_setup 224 = .ok (.ldc 82, 2) := by decide +kernel
theorem dL_setup_226 : decode cL_setup 226 = .ok (.invokevirtual 62, 3) := by decide +kernel
theorem dL_setup_229 : decode cL_setup 229 = .ok (.bipush 97, 2) := by decide +kernel
theorem dL_setup_231 : decode cL_setup 231 = .ok (.iload_n 3, 1) := by decide +kernel
theorem dL_setup_232 : decode cL_setup 232 = .ok (.iadd, 1) := by decide +kernel
theorem dL_setup_233 : decode cL_setup 233 = .ok (.i2c, 1) := by decide +kernel
theorem dL_setup_234 : decode cL_setup 234 = .ok (.invokevirtual 65, 3) := by decide +kernel
theorem dL_setup_237 : decode cL_setup 237 = .ok (.iload_n 2, 1) := by decide +kernel
theorem dL_setup_238 : decode cL_setup 238 = .ok (.ifCond .eq 12, 3) := by decide +kernel
theorem dL_setup_241 : decode cL_setup 241 = .ok (.aload_n 0, 1) := by decide +kernel
theorem dL_setup_242 : decode cL_setup 242 = .ok (.invokestatic 53, 3) := by decide +kernel
theorem dL_setup_245 : decode cL_setup 245 = .ok (.iconst 3, 1) := by decide +kernel
theorem dL_setup_246 : decode cL_setup 246 = .ok (.irem, 1) := by decide +kernel
theorem dL_setup_247 : decode cL_setup 247 = .ok (.ifCond .ne 8, 3) := by decide +kernel
theorem dL_setup_250 : decode cL_setup 250 = .ok (.ldc 78, 2) := by decide +kernel
theorem dL_setup_252 : decode cL_setup 252 = .ok (.goto 36, 3) := by decide +kernel
theorem dL_setup_255 : decode cL_setup 255 = .ok (.new 46, 3) := by decide +kernel
theorem dL_setup_258 : decode cL_setup 258 = .ok (.dup, 1) := by decide +kernel
theorem dL_setup_259 : decode cL_setup 259 = .ok (.invokespecial 84, 3) := by decide +kernel
theorem dL_setup_262 : decode cL_setup 262 = .ok (.ldc 85, 2) := by decide +kernel
theorem dL_setup_264 : decode cL_setup 264 = .ok (.invokevirtual 62, 3) := by decide +kernel
theorem dL_setup_267 : decode cL_setup 267 = .ok (.bipush 120, 2) := by decide +kernel
theorem dL_setup_269 : decode cL_setup 269 = .ok (.aload_n 0, 1) := by decide +kernel
theorem dL_setup_270 : decode cL_setup 270 = .ok (.invokestatic 53, 3) := by decide +kernel
theorem dL_setup_273 : decode cL_setup 273 = .ok (.iload_n 2, 1) := by decide +kernel
theorem dL_setup_274 : decode cL_setup 274 = .ok (.irem, 1) := by decide +kernel
theorem dL_setup_275 : decode cL_setup 275 = .ok (.iadd, 1) := by decide +kernel
theorem dL_setup_276 : decode cL_setup 276 = .ok (.i2c, 1) := by decide +kernel
theorem dL_setup_277 : decode cL_setup 277 = .ok (.invokevirtual 65, 3) := by decide +kernel
theorem dL_setup_280 : decode cL_setup 280 = .ok (.ldc 78, 2) := by decide +kernel
theorem dL_setup_282 : decode cL_setup 282 = .ok (.invokevirtual 62, 3) := by decide +kernel
theorem dL_setup_285 : decode cL_setup 285 = .ok (.invokevirtual 87, 3) := by decide +kernel
theorem dL_setup_288 : decode cL_setup 288 = .ok (.invokevirtual 62, 3) := by decide +kernel
theorem dL_setup_291 : decode cL_setup 291 = .ok (.pop, 1) := by decide +kernel
theorem dL_setup_292 : decode cL_setup 292 = .ok (.iinc 3 1, 3) := by decide +kernel
theorem dL_setup_295 : decode cL_setup 295 = .ok (.goto (-93), 3) := by decide +kernel
theorem dL_setup_298 : decode cL_setup 298 = .ok (.aload_n 1, 1) := by decide +kernel
theorem dL_setup_299 : decode cL_setup 299 = .ok (.invokevirtual 87, 3) := by decide +kernel
theorem dL_setup_302 : decode cL_setup 302 = .ok (.areturn, 1) := by decide +kernel
theorem dL_text_0 : decode cL_text 0 = .ok (.new 46, 3) := by decide +kernel
theorem dL_text_3 : decode cL_text 3 = .ok (.dup, 1) := by decide +kernel
theorem dL_text_4 : decode cL_text 4 = .ok (.invokespecial 84, 3) := by decide +kernel
theorem dL_text_7 : decode cL_text 7 = .ok (.astore_n 2, 1) := by decide +kernel
theorem dL_text_8 : decode cL_text 8 = .ok (.iload_n 1, 1) := by decide +kernel
theorem dL_text_9 : decode cL_text 9 = .ok (.ifCond .ne 10, 3) := by decide +kernel
theorem dL_text_12 : decode cL_text 12 = .ok (.aload_n 0, 1) := by decide +kernel
theorem dL_text_13 : decode cL_text 13 = .ok (.invokevirtual 91, 3) := by decide +kernel
theorem dL_text_16 : decode cL_text 16 = .ok (.goto 19, 3) := by decide +kernel
theorem dL_text_19 : decode cL_text 19 = .ok (.iload_n 1, 1) := by decide +kernel
theorem dL_text_20 : decode cL_text 20 = .ok (.iconst 1, 1) := by decide +kernel
theorem dL_text_21 : decode cL_text 21 = .ok (.if_icmp .ne 10, 3) := by decide +kernel
theorem dL_text_24 : decode cL_text 24 = .ok (.aload_n 0, 1) := by decide +kernel
theorem dL_text_25 : decode cL_text 25 = .ok (.invokevirtual 94, 3) := by decide +kernel
theorem dL_text_28 : decode cL_text 28 = .ok (.goto 7, 3) := by decide +kernel
theorem dL_text_31 : decode cL_text 31 = .ok (.aload_n 0, 1) := by decide +kernel
theorem dL_text_32 : decode cL_text 32 = .ok (.invokevirtual 97, 3) := by decide +kernel
theorem dL_text_35 : decode cL_text 35 = .ok (.istore_n 3, 1) := by decide +kernel
theorem dL_text_36 : decode cL_text 36 = .ok (.iconst 0, 1) := by decide +kernel
theorem dL_text_37 : decode cL_text 37 = .ok (.istore 4, 2) := by decide +kernel
theorem dL_text_39 : decode cL_text 39 = .ok (.iload 4, 2) := by decide +kernel
theorem dL_text_41 : decode cL_text 41 = .ok (.iload_n 3, 1) := by decide +kernel
theorem dL_text_42 : decode cL_text 42 = .ok (.if_icmp .ge 48, 3) := by decide +kernel
theorem dL_text_45 : decode cL_text 45 = .ok (.aload_n 2, 1) := by decide +kernel
theorem dL_text_46 : decode cL_text 46 = .ok (.iload_n 1, 1) := by decide +kernel
theorem dL_text_47 : decode cL_text 47 = .ok (.ifCond .ne 12, 3) := by decide +kernel
theorem dL_text_50 : decode cL_text 50 = .ok (.aload_n 0, 1) := by decide +kernel
theorem dL_text_51 : decode cL_text 51 = .ok (.iload 4, 2) := by decide +kernel
theorem dL_text_53 : decode cL_text 53 = .ok (.invokevirtual 100, 3) := by decide +kernel
theorem dL_text_56 : decode cL_text 56 = .ok (.goto 23, 3) := by decide +kernel
theorem dL_text_59 : decode cL_text 59 = .ok (.iload_n 1, 1) := by decide +kernel
theorem dL_text_60 : decode cL_text 60 = .ok (.iconst 1, 1) := by decide +kernel
theorem dL_text_61 : decode cL_text 61 = .ok (.if_icmp .ne 12, 3) := by decide +kernel
theorem dL_text_64 : decode cL_text 64 = .ok (.aload_n 0, 1) := by decide +kernel
theorem dL_text_65 : decode cL_text 65 = .ok (.iload 4, 2) := by decide +kernel
theorem dL_text_67 : decode cL_text 67 = .ok (.invokevirtual 103, 3) := by decide +kernel
theorem dL_text_70 : decode cL_text 70 = .ok (.goto 9, 3) := by decide +kernel
theorem dL_text_73 : decode cL_text 73 = .ok (.aload_n 0, 1) := by decide +kernel
theorem dL_text_74 : decode cL_text 74 = .ok (.iload 4, 2) := by decide +kernel
theorem dL_text_76 : decode cL_text 76 = .ok (.invokevirtual 106, 3) := by decide +kernel
theorem dL_text_79 : decode cL_text 79 = .ok (.i2c, 1) := by decide +kernel
theorem dL_text_80 : decode cL_text 80 = .ok (.invokevirtual 65, 3) := by decide +kernel
theorem dL_text_83 : decode cL_text 83 = .ok (.pop, 1) := by decide +kernel
theorem dL_text_84 : decode cL_text 84 = .ok (.iinc 4 1, 3) := by decide +kernel
theorem dL_text_87 : decode cL_text 87 = .ok (.goto (-48), 3) := by decide +kernel
theorem dL_text_90 : decode cL_text 90 = .ok (.aload_n 2, 1) := by decide +kernel
theorem dL_text_91 : decode cL_text 91 = .ok (.invokevirtual 87, 3) := by decide +kernel
theorem dL_text_94 : decode cL_text 94 = .ok (.areturn, 1) := by decide +kernel
theorem dL_acts_0 : decode cL_acts 0 = .ok (.aload_n 1, 1) := by decide +kernel
theorem dL_acts_1 : decode cL_acts 1 = .ok (.invokestatic 53, 3) := by decide +kernel
theorem dL_acts_4 : decode cL_acts 4 = .ok (.aload_n 0, 1) := by decide +kernel
theorem dL_acts_5 : decode cL_acts 5 = .ok (.iconst 2, 1) := by decide +kernel
theorem dL_acts_6 : decode cL_acts 6 = .ok (.invokevirtual 40, 3) := by decide +kernel
theorem dL_acts_9 : decode cL_acts 9 = .ok (.irem, 1) := by decide +kernel
theorem dL_acts_10 : decode cL_acts 10 = .ok (.istore_n 2, 1) := by decide +kernel
theorem dL_acts_11 : decode cL_acts 11 = .ok (.aload_n 1, 1) := by decide +kernel
theorem dL_acts_12 : decode cL_acts 12 = .ok (.invokestatic 53, 3) := by decide +kernel
theorem dL_acts_15 : decode cL_acts 15 = .ok (.aload_n 0, 1) := by decide +kernel
theorem dL_acts_16 : decode cL_acts 16 = .ok (.iconst 2, 1) := by decide +kernel
theorem dL_acts_17 : decode cL_acts 17 = .ok (.invokevirtual 40, 3) := by decide +kernel
theorem dL_acts_20 : decode cL_acts 20 = .ok (.irem, 1) := by decide +kernel
theorem dL_acts_21 : decode cL_acts 21 = .ok (.istore_n 3, 1) := by decide +kernel
theorem dL_acts_22 : decode cL_acts 22 = .ok (.aload_n 1, 1) := by decide +kernel
theorem dL_acts_23 : decode cL_acts 23 = .ok (.invokestatic 53, 3) := by decide +kernel
theorem dL_acts_26 : decode cL_acts 26 = .ok (.iconst 3, 1) := by decide +kernel
theorem dL_acts_27 : decode cL_acts 27 = .ok (.irem, 1) := by decide +kernel
theorem dL_acts_28 : decode cL_acts 28 = .ok (.istore 4, 2) := by decide +kernel
theorem dL_acts_30 : decode cL_acts 30 = .ok (.aload_n 1, 1) := by decide +kernel
theorem dL_acts_31 : decode cL_acts 31 = .ok (.invokestatic 53, 3) := by decide +kernel
theorem dL_acts_34 : decode cL_acts 34 = .ok (.iconst 3, 1) := by decide +kernel
theorem dL_acts_35 : decode cL_acts 35 = .ok (.irem, 1) := by decide +kernel
theorem dL_acts_36 : decode cL_acts 36 = .ok (.istore 5, 2) := by decide +kernel
theorem dL_acts_38 : decode cL_acts 38 = .ok (.aload_n 1, 1) := by decide +kernel
theorem dL_acts_39 : decode cL_acts 39 = .ok (.invokestatic 53, 3) := by decide +kernel
theorem dL_acts_42 : decode cL_acts 42 = .ok (.bipush 20, 2) := by decide +kernel
theorem dL_acts_44 : decode cL_acts 44 = .ok (.irem, 1) := by decide +kernel
theorem dL_acts_45 : decode cL_acts 45 = .ok (.tableswitch 270 0 17 #[87, 87, 103, 136, 158, 171, 171, 171, 194, 200, 200, 209, 209, 209, 236, 236, 243, 265], 87) := by decide +kernel
theorem dL_acts_132 : decode cL_acts 132 = .ok (.aload_n 0, 1) := by decide +kernel
theorem dL_acts_133 : decode cL_acts 133 = .ok (.iload 4, 2) := by decide +kernel
theorem dL_acts_135 : decode cL_acts 135 = .ok (.iconst 1, 1) := by decide +kernel
theorem dL_acts_136 : decode cL_acts 136 = .ok (.aload_n 1, 1) := by decide +kernel
theorem dL_acts_137 : decode cL_acts 137 = .ok (.invokestatic 53, 3) := by decide +kernel
theorem dL_acts_140 : decode cL_acts 140 = .ok (.bipush 9, 2) := by decide +kernel
theorem dL_acts_142 : decode cL_acts 142 = .ok (.irem, 1) := by decide +kernel
theorem dL_acts_143 : decode cL_acts 143 = .ok (.iadd, 1) := by decide +kernel
theorem dL_acts_144 : decode cL_acts 144 = .ok (.invokevirtual 109, 3) := by decide +kernel
theorem dL_acts_147 : decode cL_acts 147 = .ok (.ireturn, 1) := by decide +kernel
theorem dL_acts_148 : decode cL_acts 148 = .ok (.aload_n 1, 1) := by decide +kernel
theorem dL_acts_149 : decode cL_acts 149 = .ok (.invokestatic 53, 3) := by decide +kernel
theorem dL_acts_152 : decode cL_acts 152 = .ok (.iconst 2, 1) := by decide +kernel
theorem dL_acts_153 : decode cL_acts 153 = .ok (.irem, 1) := by decide +kernel
theorem dL_acts_154 : decode cL_acts 154 = .ok (.ifCond .ne 20, 3) := by decide +kernel
theorem dL_acts_157 : decode cL_acts 157 = .ok (.aload_n 0, 1) := by decide +kernel
theorem dL_acts_158 : decode cL_acts 158 = .ok (.iload 4, 2) := by decide +kernel
theorem dL_acts_160 : decode cL_acts 160 = .ok (.iconst 1, 1) := by decide +kernel
theorem dL_acts_161 : decode cL_acts 161 = .ok (.aload_n 1, 1) := by decide +kernel
theorem dL_acts_162 : decode cL_acts 162 = .ok (.invokestatic 53, 3) := by decide +kernel
theorem dL_acts_165 : decode cL_acts 165 = .ok (.iconst 3, 1) := by decide +kernel
theorem dL_acts_166 : decode cL_acts 166 = .ok (.irem, 1) := by decide +kernel
theorem dL_acts_167 : decode cL_acts 167 = .ok (.iadd, 1) := by decide +kernel
theorem dL_acts_168 : decode cL_acts 168 = .ok (.invokevirtual 113, 3) := by decide +kernel
theorem dL_acts_171 : decode cL_acts 171 = .ok (.goto 9, 3) := by decide +kernel
theorem dL_acts_174 : decode cL_acts 174 = .ok (.aload_n 0, 1) := by decide +kernel
theorem dL_acts_175 : decode cL_acts 175 = .ok (.iload 4, 2) := by decide +kernel
theorem dL_acts_177 : decode cL_acts 177 = .ok (.invokevirtual 116, 3) := by decide +kernel
theorem dL_acts_180 : decode cL_acts 180 = .ok (.ireturn, 1) := by decide +kernel
theorem dL_acts_181 : decode cL_acts 181 = .ok (.aload_n 0, 1) := by decide +kernel
theorem dL_acts_182 : decode cL_acts 182 = .ok (.iload_n 2, 1) := by decide +kernel
theorem dL_acts_183 : decode cL_acts 183 = .ok (.aload_n 1, 1) := by decide +kernel
theorem dL_acts_184 : decode cL_acts 184 = .ok (.invokestatic 53, 3) := by decide +kernel
theorem dL_acts_187 : decode cL_acts 187 = .ok (.iconst 3, 1) := by decide +kernel
theorem dL_acts_188 : decode cL_acts 188 = .ok (.irem, 1) := by decide +kernel
theorem dL_acts_189 : decode cL_acts 189 = .ok (.ifCond .ne 8, 3) := by decide +kernel
theorem dL_acts_192 : decode cL_acts 192 = .ok (.bipush (-2), 2) := by decide +kernel
theorem dL_acts_194 : decode cL_acts 194 = .ok (.goto 5, 3) := by decide +kernel
theorem dL_acts_197 : decode cL_acts 197 = .ok (.iload 4, 2) := by decide +kernel
theorem dL_acts_199 : decode cL_acts 199 = .ok (.invokevirtual 119, 3) := by decide +kernel
theorem dL_acts_202 : decode cL_acts 202 = .ok (.ireturn, 1) := by decide +kernel
theorem dL_acts_203 : decode cL_acts 203 = .ok (.aload_n 0, 1) := by decide +kernel
theorem dL_acts_204 : decode cL_acts 204 = .ok (.iconst 2, 1) := by decide +kernel
theorem dL_acts_205 : decode cL_acts 205 = .ok (.aload_n 1, 1) := by decide +kernel
theorem dL_acts_206 : decode cL_acts 206 = .ok (.invokestatic 53, 3) := by decide +kernel
theorem dL_acts_209 : decode cL_acts 209 = .ok (.iconst 3, 1) := by decide +kernel
theorem dL_acts_210 : decode cL_acts 210 = .ok (.irem, 1) := by decide +kernel
theorem dL_acts_211 : decode cL_acts 211 = .ok (.iadd, 1) := by decide +kernel
theorem dL_acts_212 : decode cL_acts 212 = .ok (.invokevirtual 122, 3) := by decide +kernel
theorem dL_acts_215 : decode cL_acts 215 = .ok (.ireturn, 1) := by decide +kernel
theorem dL_acts_216 : decode cL_acts 216 = .ok (.aload_n 0, 1) := by decide +kernel
theorem dL_acts_217 : decode cL_acts 217 = .ok (.iload_n 2, 1) := by decide +kernel
theorem dL_acts_218 : decode cL_acts 218 = .ok (.iload_n 3, 1) := by decide +kernel
theorem dL_acts_219 : decode cL_acts 219 = .ok (.aload_n 1, 1) := by decide +kernel
theorem dL_acts_220 : decode cL_acts 220 = .ok (.invokestatic 53, 3) := by decide +kernel
theorem dL_acts_223 : decode cL_acts 223 = .ok (.iconst 2, 1) := by decide +kernel
theorem dL_acts_224 : decode cL_acts 224 = .ok (.irem, 1) := by decide +kernel
theorem dL_acts_225 : decode cL_acts 225 = .ok (.ifCond .ne 8, 3) := by decide +kernel
theorem dL_acts_228 : decode cL_acts 228 = .ok (.bipush (-2), 2) := by decide +kernel
theorem dL_acts_230 : decode cL_acts 230 = .ok (.goto 5, 3) := by decide +kernel
theorem dL_acts_233 : decode cL_acts 233 = .ok (.iload 5, 2) := by decide +kernel
theorem dL_acts_235 : decode cL_acts 235 = .ok (.invokevirtual 125, 3) := by decide +kernel
theorem dL_acts_238 : decode cL_acts 238 = .ok (.ireturn, 1) := by decide +kernel
theorem dL_acts_239 : decode cL_acts 239 = .ok (.aload_n 0, 1) := by decide +kernel
theorem dL_acts_240 : decode cL_acts 240 = .ok (.iload_n 2, 1) := by decide +kernel
theorem dL_acts_241 : decode cL_acts 241 = .ok (.invokevirtual 129, 3) := by decide +kernel
theorem dL_acts_244 : decode cL_acts 244 = .ok (.ireturn, 1) := by decide +kernel
theorem dL_acts_245 : decode cL_acts 245 = .ok (.aload_n 0, 1) := by decide +kernel
theorem dL_acts_246 : decode cL_acts 246 = .ok (.iload_n 2, 1) := by decide +kernel
theorem dL_acts_247 : decode cL_acts 247 = .ok (.iload_n 2, 1) := by decide +kernel
theorem dL_acts_248 : decode cL_acts 248 = .ok (.iload 5, 2) := by decide +kernel
theorem dL_acts_250 : decode cL_acts 250 = .ok (.invokevirtual 132, 3) := by decide +kernel
theorem dL_acts_253 : decode cL_acts 253 = .ok (.ireturn, 1) := by decide +kernel
theorem dL_acts_254 : decode cL_acts 254 = .ok (.aload_n 0, 1) := by decide +kernel
theorem dL_acts_255 : decode cL_acts 255 = .ok (.aload_n 0, 1) := by decide +kernel
theorem dL_acts_256 : decode cL_acts 256 = .ok (.iload_n 2, 1) := by decide +kernel
theorem dL_acts_257 : decode cL_acts 257 = .ok (.iconst 1, 1) := by decide +kernel
theorem dL_acts_258 : decode cL_acts 258 = .ok (.invokevirtual 135, 3) := by decide +kernel
theorem dL_acts_261 : decode cL_acts 261 = .ok (.ifCond .ge 7, 3) := by decide +kernel
theorem dL_acts_264 : decode cL_acts 264 = .ok (.iload_n 2, 1) := by decide +kernel
theorem dL_acts_265 : decode cL_acts 265 = .ok (.goto 9, 3) := by decide +kernel
theorem dL_acts_268 : decode cL_acts 268 = .ok (.aload_n 0, 1) := by decide +kernel
theorem dL_acts_269 : decode cL_acts 269 = .ok (.iload_n 2, 1) := by decide +kernel
theorem dL_acts_270 : decode cL_acts 270 = .ok (.iconst 1, 1) := by decide +kernel
theorem dL_acts_271 : decode cL_acts 271 = .ok (.invokevirtual 135, 3) := by decide +kernel
theorem dL_acts_274 : decode cL_acts 274 = .ok (.iload_n 2, 1) := by decide +kernel
theorem dL_acts_275 : decode cL_acts 275 = .ok (.iload 5, 2) := by decide +kernel
theorem dL_acts_277 : decode cL_acts 277 = .ok (.invokevirtual 132, 3) := by decide +kernel
theorem dL_acts_280 : decode cL_acts 280 = .ok (.ireturn, 1) := by decide +kernel
theorem dL_acts_281 : decode cL_acts 281 = .ok (.aload_n 0, 1) := by decide +kernel
theorem dL_acts_282 : decode cL_acts 282 = .ok (.iload_n 2, 1) := by decide +kernel
theorem dL_acts_283 : decode cL_acts 283 = .ok (.iload_n 3, 1) := by decide +kernel
theorem dL_acts_284 : decode cL_acts 284 = .ok (.invokevirtual 138, 3) := by decide +kernel
theorem dL_acts_287 : decode cL_acts 287 = .ok (.ireturn, 1) := by decide +kernel
theorem dL_acts_288 : decode cL_acts 288 = .ok (.aload_n 1, 1) := by decide +kernel
theorem dL_acts_289 : decode cL_acts 289 = .ok (.invokestatic 53, 3) := by decide +kernel
theorem dL_acts_292 : decode cL_acts 292 = .ok (.iconst 3, 1) := by decide +kernel
theorem dL_acts_293 : decode cL_acts 293 = .ok (.irem, 1) := by decide +kernel
theorem dL_acts_294 : decode cL_acts 294 = .ok (.ifCond .ne 10, 3) := by decide +kernel
theorem dL_acts_297 : decode cL_acts 297 = .ok (.aload_n 0, 1) := by decide +kernel
theorem dL_acts_298 : decode cL_acts 298 = .ok (.invokevirtual 141, 3) := by decide +kernel
theorem dL_acts_301 : decode cL_acts 301 = .ok (.goto 8, 3) := by decide +kernel
theorem dL_acts_304 : decode cL_acts 304 = .ok (.aload_n 0, 1) := by decide +kernel
theorem dL_acts_305 : decode cL_acts 305 = .ok (.iconst 2, 1) := by decide +kernel
theorem dL_acts_306 : decode cL_acts 306 = .ok (.invokevirtual 122, 3) := by decide +kernel
theorem dL_acts_309 : decode cL_acts 309 = .ok (.ireturn, 1) := by decide +kernel
theorem dL_acts_310 : decode cL_acts 310 = .ok (.aload_n 0, 1) := by decide +kernel
theorem dL_acts_311 : decode cL_acts 311 = .ok (.invokevirtual 144, 3) := by decide +kernel
theorem dL_acts_314 : decode cL_acts 314 = .ok (.ireturn, 1) := by decide +kernel
theorem dL_acts_315 : decode cL_acts 315 = .ok (.aload_n 0, 1) := by decide +kernel
theorem dL_acts_316 : decode cL_acts 316 = .ok (.iconst 1, 1) := by decide +kernel
theorem dL_acts_317 : decode cL_acts 317 = .ok (.aload_n 1, 1) := by decide +kernel
theorem dL_acts_318 : decode cL_acts 318 = .ok (.invokestatic 53, 3) := by decide +kernel
theorem dL_acts_321 : decode cL_acts 321 = .ok (.iconst 4, 1) := by decide +kernel
theorem dL_acts_322 : decode cL_acts 322 = .ok (.irem, 1) := by decide +kernel
theorem dL_acts_323 : decode cL_acts 323 = .ok (.iadd, 1) := by decide +kernel
theorem dL_acts_324 : decode cL_acts 324 = .ok (.invokevirtual 147, 3) := by decide +kernel
theorem dL_acts_327 : decode cL_acts 327 = .ok (.ireturn, 1) := by decide +kernel
theorem dL_stands_0 : decode cL_stands 0 = .ok (.aload_n 0, 1) := by decide +kernel
theorem dL_stands_1 : decode cL_stands 1 = .ok (.iconst 2, 1) := by decide +kernel
theorem dL_stands_2 : decode cL_stands 2 = .ok (.invokevirtual 40, 3) := by decide +kernel
theorem dL_stands_5 : decode cL_stands 5 = .ok (.istore_n 1, 1) := by decide +kernel
theorem dL_stands_6 : decode cL_stands 6 = .ok (.iconst 0, 1) := by decide +kernel
theorem dL_stands_7 : decode cL_stands 7 = .ok (.istore_n 2, 1) := by decide +kernel
theorem dL_stands_8 : decode cL_stands 8 = .ok (.iconst 0, 1) := by decide +kernel
theorem dL_stands_9 : decode cL_stands 9 = .ok (.istore_n 3, 1) := by decide +kernel
theorem dL_stands_10 : decode cL_stands 10 = .ok (.iconst 0, 1) := by decide +kernel
theorem dL_stands_11 : decode cL_stands 11 = .ok (.istore 4, 2) := by decide +kernel
theorem dL_stands_13 : decode cL_stands 13 = .ok (.iconst 0, 1) := by decide +kernel
theorem dL_stands_14 : decode cL_stands 14 = .ok (.istore 5, 2) := by decide +kernel
theorem dL_stands_16 : decode cL_stands 16 = .ok (.iconst 0, 1) := by decide +kernel
theorem dL_stands_17 : decode cL_stands 17 = .ok (.istore 6, 2) := by decide +kernel
theorem dL_stands_19 : decode cL_stands 19 = .ok (.aload_n 0, 1) := by decide +kernel
theorem dL_stands_20 : decode cL_stands 20 = .ok (.invokevirtual 150, 3) := by decide +kernel
theorem dL_stands_23 : decode cL_stands 23 = .ok (.istore 7, 2) := by decide +kernel
theorem dL_stands_25 : decode cL_stands 25 = .ok (.iconst 0, 1) := by decide +kernel
theorem dL_stands_26 : decode cL_stands 26 = .ok (.istore 8, 2) := by decide +kernel
theorem dL_stands_28 : decode cL_stands 28 = .ok (.iload 8, 2) := by decide +kernel
theorem dL_stands_30 : decode cL_stands 30 = .ok (.iload_n 1, 1) := by decide +kernel
theorem dL_stands_31 : decode cL_stands 31 = .ok (.if_icmp .ge 381, 3) := by decide +kernel
theorem dL_stands_34 : decode cL_stands 34 = .ok (.iload 7, 2) := by decide +kernel
theorem dL_stands_36 : decode cL_stands 36 = .ok (.ifCond .eq 376, 3) := by decide +kernel
theorem dL_stands_39 : decode cL_stands 39 = .ok (.aload_n 0, 1) := by decide +kernel
theorem dL_stands_40 : decode cL_stands 40 = .ok (.iload 8, 2) := by decide +kernel
theorem dL_stands_42 : decode cL_stands 42 = .ok (.iconst 0, 1) := by decide +kernel
theorem dL_stands_43 : decode cL_stands 43 = .ok (.invokevirtual 135, 3) := by decide +kernel
theorem dL_stands_46 : decode cL_stands 46 = .ok (.istore 9, 2) := by decide +kernel
theorem dL_stands_48 : decode cL_stands 48 = .ok (.aload_n 0, 1) := by decide +kernel
theorem dL_stands_49 : decode cL_stands 49 = .ok (.iload 8, 2) := by decide +kernel
theorem dL_stands_51 : decode cL_stands 51 = .ok (.iconst 1, 1) := by decide +kernel
theorem dL_stands_52 : decode cL_stands 52 = .ok (.invokevirtual 135, 3) := by decide +kernel
theorem dL_stands_55 : decode cL_stands 55 = .ok (.istore 10, 2) := by decide +kernel
theorem dL_stands_57 : decode cL_stands 57 = .ok (.aload_n 0, 1) := by decide +kernel
theorem dL_stands_58 : decode cL_stands 58 = .ok (.iload 8, 2) := by decide +kernel
theorem dL_stands_60 : decode cL_stands 60 = .ok (.iconst 0, 1) := by decide +kernel
theorem dL_stands_61 : decode cL_stands 61 = .ok (.invokevirtual 154, 3) := by decide +kernel
theorem dL_stands_64 : decode cL_stands 64 = .ok (.istore 11, 2) := by decide +kernel
theorem dL_stands_66 : decode cL_stands 66 = .ok (.iload_n 2, 1) := by decide +kernel
theorem dL_stands_67 : decode cL_stands 67 = .ok (.aload_n 0, 1) := by decide +kernel
theorem dL_stands_68 : decode cL_stands 68 = .ok (.iload 8, 2) := by decide +kernel
theorem dL_stands_70 : decode cL_stands 70 = .ok (.iconst 1, 1) := by decide +kernel
theorem dL_stands_71 : decode cL_stands 71 = .ok (.invokevirtual 154, 3) := by decide +kernel
theorem dL_stands_74 : decode cL_stands 74 = .ok (.iadd, 1) := by decide +kernel
theorem dL_stands_75 : decode cL_stands 75 = .ok (.istore_n 2, 1) := by decide +kernel
theorem dL_stands_76 : decode cL_stands 76 = .ok (.iload 6, 2) := by decide +kernel
theorem dL_stands_78 : decode cL_stands 78 = .ok (.aload_n 0, 1) := by decide +kernel
theorem dL_stands_79 : decode cL_stands 79 = .ok (.iload 8, 2) := by decide +kernel
theorem dL_stands_81 : decode cL_stands 81 = .ok (.bipush 6, 2) := by decide +kernel
theorem dL_stands_83 : decode cL_stands 83 = .ok (.invokevirtual 154, 3) := by decide +kernel
theorem dL_stands_86 : decode cL_stands 86 = .ok (.iadd, 1) := by decide +kernel
theorem dL_stands_87 : decode cL_stands 87 = .ok (.istore 6, 2) := by decide +kernel
theorem dL_stands_89 : decode cL_stands 89 = .ok (.iload_n 3, 1) := by decide +kernel
theorem dL_stands_90 : decode cL_stands 90 = .ok (.iload 9, 2) := by decide +kernel
theorem dL_stands_92 : decode cL_stands 92 = .ok (.iconst 3, 1) := by decide +kernel
theorem dL_stands_93 : decode cL_stands 93 = .ok (.if_icmp .ne 7, 3) := by decide +kernel
theorem dL_stands_96 : decode cL_stands 96 = .ok (.iconst 1, 1) := by decide +kernel
theorem dL_stands_97 : decode cL_stands 97 = .ok (.goto 4, 3) := by decide +kernel
theorem dL_stands_100 : decode cL_stands 100 = .ok (.iconst 0, 1) := by decide +kernel
theorem dL_stands_101 : decode cL_stands 101 = .ok (.iadd, 1) := by decide +kernel
theorem dL_stands_102 : decode cL_stands 102 = .ok (.istore_n 3, 1) := by decide +kernel
theorem dL_stands_103 : decode cL_stands 103 = .ok (.iload 4, 2) := by decide +kernel
theorem dL_stands_105 : decode cL_stands 105 = .ok (.iload 9, 2) := by decide +kernel
theorem dL_stands_107 : decode cL_stands 107 = .ok (.iconst 2, 1) := by decide +kernel
theorem dL_stands_108 : decode cL_stands 108 = .ok (.if_icmp .ne 7, 3) := by decide +kernel
theorem dL_stands_111 : decode cL_stands 111 = .ok (.iconst 1, 1) := by decide +kernel
theorem dL_stands_112 : decode cL_stands 112 = .ok (.goto 4, 3) := by decide +kernel
theorem dL_stands_115 : decode cL_stands 115 = .ok (.iconst 0, 1) := by decide +kernel
theorem dL_stands_116 : decode cL_stands 116 = .ok (.iadd, 1) := by decide +kernel
theorem dL_stands_117 : decode cL_stands 117 = .ok (.istore 4, 2) := by decide +kernel
theorem dL_stands_119 : decode cL_stands 119 = .ok (.iload 5, 2) := by decide +kernel
theorem dL_stands_121 : decode cL_stands 121 = .ok (.iload 9, 2) := by decide +kernel
theorem dL_stands_123 : decode cL_stands 123 = .ok (.iconst 2, 1) := by decide +kernel
theorem dL_stands_124 : decode cL_stands 124 = .ok (.if_icmp .ne 20, 3) := by decide +kernel
theorem dL_stands_127 : decode cL_stands 127 = .ok (.aload_n 0, 1) := by decide +kernel
theorem dL_stands_128 : decode cL_stands 128 = .ok (.iload 8, 2) := by decide +kernel
theorem dL_stands_130 : decode cL_stands 130 = .ok (.iconst 5, 1) := by decide +kernel
theorem dL_stands_131 : decode cL_stands 131 = .ok (.invokevirtual 135, 3) := by decide +kernel
theorem dL_stands_134 : decode cL_stands 134 = .ok (.ifCond .le 10, 3) := by decide +kernel
theorem dL_stands_137 : decode cL_stands 137 = .ok (.iconst 1, 1) := by decide +kernel
theorem dL_stands_138 : decode cL_stands 138 = .ok (.iload 8, 2) := by decide +kernel
theorem dL_stands_140 : decode cL_stands 140 = .ok (.ishl, 1) := by decide +kernel
theorem dL_stands_141 : decode cL_stands 141 = .ok (.goto 4, 3) := by decide +kernel
theorem dL_stands_144 : decode cL_stands 144 = .ok (.iconst 0, 1) := by decide +kernel
theorem dL_stands_145 : decode cL_stands 145 = .ok (.ior, 1) := by decide +kernel
theorem dL_stands_146 : decode cL_stands 146 = .ok (.istore 5, 2) := by decide +kernel
theorem dL_stands_148 : decode cL_stands 148 = .ok (.iload 9, 2) := by decide +kernel
theorem dL_stands_150 : decode cL_stands 150 = .ok (.ifCond .eq 9, 3) := by decide +kernel
theorem dL_stands_153 : decode cL_stands 153 = .ok (.iload 9, 2) := by decide +kernel
theorem dL_stands_155 : decode cL_stands 155 = .ok (.iconst 1, 1) := by decide +kernel
theorem dL_stands_156 : decode cL_stands 156 = .ok (.if_icmp .ne 7, 3) := by decide +kernel
theorem dL_stands_159 : decode cL_stands 159 = .ok (.iconst 1, 1) := by decide +kernel
theorem dL_stands_160 : decode cL_stands 160 = .ok (.goto 4, 3) := by decide +kernel
theorem dL_stands_163 : decode cL_stands 163 = .ok (.iconst 0, 1) := by decide +kernel
theorem dL_stands_164 : decode cL_stands 164 = .ok (.aload_n 0, 1) := by decide +kernel
theorem dL_stands_165 : decode cL_stands 165 = .ok (.iload 8, 2) := by decide +kernel
theorem dL_stands_167 : decode cL_stands 167 = .ok (.iconst 3, 1) := by decide +kernel
theorem dL_stands_168 : decode cL_stands 168 = .ok (.invokevirtual 135, 3) := by decide +kernel
theorem dL_stands_171 : decode cL_stands 171 = .ok (.bipush (-2), 2) := by decide +kernel
theorem dL_stands_173 : decode cL_stands 173 = .ok (.if_icmp .ne 7, 3) := by decide +kernel
theorem dL_stands_176 : decode cL_stands 176 = .ok (.iconst 1, 1) := by decide +kernel
theorem dL_stands_177 : decode cL_stands 177 = .ok (.goto 4, 3) := by decide +kernel
theorem dL_stands_180 : decode cL_stands 180 = .ok (.iconst 0, 1) := by decide +kernel
theorem dL_stands_181 : decode cL_stands 181 = .ok (.if_icmp .ne 222, 3) := by decide +kernel
theorem dL_stands_184 : decode cL_stands 184 = .ok (.iload 9, 2) := by decide +kernel
theorem dL_stands_186 : decode cL_stands 186 = .ok (.ifCond .ne 22, 3) := by decide +kernel
theorem dL_stands_189 : decode cL_stands 189 = .ok (.iload 10, 2) := by decide +kernel
theorem dL_stands_191 : decode cL_stands 191 = .ok (.bipush (-2), 2) := by decide +kernel
theorem dL_stands_193 : decode cL_stands 193 = .ok (.if_icmp .ne 210, 3) := by decide +kernel
theorem dL_stands_196 : decode cL_stands 196 = .ok (.aload_n 0, 1) := by decide +kernel
theorem dL_stands_197 : decode cL_stands 197 = .ok (.iload 8, 2) := by decide +kernel
theorem dL_stands_199 : decode cL_stands 199 = .ok (.iconst 2, 1) := by decide +kernel
theorem dL_stands_200 : decode cL_stands 200 = .ok (.invokevirtual 135, 3) := by decide +kernel
theorem dL_stands_203 : decode cL_stands 203 = .ok (.bipush (-2), 2) := by decide +kernel
theorem dL_stands_205 : decode cL_stands 205 = .ok (.if_icmp .ne 198, 3) := by decide +kernel
theorem dL_stands_208 : decode cL_stands 208 = .ok (.iload 9, 2) := by decide +kernel
theorem dL_stands_210 : decode cL_stands 210 = .ok (.iconst 1, 1) := by decide +kernel
theorem dL_stands_211 : decode cL_stands 211 = .ok (.if_icmp .ne 23, 3) := by decide +kernel
theorem dL_stands_214 : decode cL_stands 214 = .ok (.iload 10, 2) := by decide +kernel
theorem dL_stands_216 : decode cL_stands 216 = .ok (.ifCond .lt 187, 3) := by decide +kernel
theorem dL_stands_219 : decode cL_stands 219 = .ok (.aload_n 0, 1) := by decide +kernel
theorem dL_stands_220 : decode cL_stands 220 = .ok (.iload 10, 2) := by decide +kernel
theorem dL_stands_222 : decode cL_stands 222 = .ok (.invokevirtual 157, 3) := by decide +kernel
theorem dL_stands_225 : decode cL_stands 225 = .ok (.iload 8, 2) := by decide +kernel
theorem dL_stands_227 : decode cL_stands 227 = .ok (.ishr, 1) := by decide +kernel
theorem dL_stands_228 : decode cL_stands 228 = .ok (.iconst 1, 1) := by decide +kernel
theorem dL_stands_229 : decode cL_stands 229 = .ok (.iand, 1) := by decide +kernel
theorem dL_stands_230 : decode cL_stands 230 = .ok (.iconst 1, 1) := by decide +kernel
theorem dL_stands_231 : decode cL_stands 231 = .ok (.if_icmp .ne 172, 3) := by decide +kernel
theorem dL_stands_234 : decode cL_stands 234 = .ok (.iload 9, 2) := by decide +kernel
theorem dL_stands_236 : decode cL_stands 236 = .ok (.iconst 2, 1) := by decide +kernel
theorem dL_stands_237 : decode cL_stands 237 = .ok (.if_icmp .lt 33, 3) := by decide +kernel
theorem dL_stands_240 : decode cL_stands 240 = .ok (.aload_n 0, 1) := by decide +kernel
theorem dL_stands_241 : decode cL_stands 241 = .ok (.aload_n 0, 1) := by decide +kernel
theorem dL_stands_242 : decode cL_stands 242 = .ok (.iload 8, 2) := by decide +kernel
theorem dL_stands_244 : decode cL_stands 244 = .ok (.iconst 3, 1) := by decide +kernel
theorem dL_stands_245 : decode cL_stands 245 = .ok (.invokevirtual 135, 3) := by decide +kernel
theorem dL_stands_248 : decode cL_stands 248 = .ok (.invokevirtual 160, 3) := by decide +kernel
theorem dL_stands_251 : decode cL_stands 251 = .ok (.iload 8, 2) := by decide +kernel
theorem dL_stands_253 : decode cL_stands 253 = .ok (.ishr, 1) := by decide +kernel
theorem dL_stands_254 : decode cL_stands 254 = .ok (.iconst 1, 1) := by decide +kernel
theorem dL_stands_255 : decode cL_stands 255 = .ok (.iand, 1) := by decide +kernel
theorem dL_stands_256 : decode cL_stands 256 = .ok (.iload 9, 2) := by decide +kernel
theorem dL_stands_258 : decode cL_stands 258 = .ok (.iconst 2, 1) := by decide +kernel
theorem dL_stands_259 : decode cL_stands 259 = .ok (.if_icmp .ne 7, 3) := by decide +kernel
theorem dL_stands_262 : decode cL_stands 262 = .ok (.iconst 1, 1) := by decide +kernel
theorem dL_stands_263 : decode cL_stands 263 = .ok (.goto 4, 3) := by decide +kernel
theorem dL_stands_266 : decode cL_stands 266 = .ok (.iconst 0, 1) := by decide +kernel
theorem dL_stands_267 : decode cL_stands 267 = .ok (.if_icmp .ne 136, 3) := by decide +kernel
theorem dL_stands_270 : decode cL_stands 270 = .ok (.iload 10, 2) := by decide +kernel
