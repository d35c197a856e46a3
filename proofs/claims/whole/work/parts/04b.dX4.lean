theorem dX4_init_0 : decode cX4_init 0 = .ok (.aload_n 0, 1) := by decide +kernel
theorem dX4_init_1 : decode cX4_init 1 = .ok (.invokespecial 1, 3) := by decide +kernel
theorem dX4_init_4 : decode cX4_init 4 = .ok (.aload_n 0, 1) := by decide +kernel
theorem dX4_init_5 : decode cX4_init 5 = .ok (.bipush 33, 2) := by decide +kernel
theorem dX4_init_7 : decode cX4_init 7 = .ok (.newarray .int, 2) := by decide +kernel
theorem dX4_init_9 : decode cX4_init 9 = .ok (.putfield 7, 3) := by decide +kernel
theorem dX4_init_12 : decode cX4_init 12 = .ok (.aload_n 0, 1) := by decide +kernel
theorem dX4_init_13 : decode cX4_init 13 = .ok (.sipush 231, 3) := by decide +kernel
theorem dX4_init_16 : decode cX4_init 16 = .ok (.newarray .int, 2) := by decide +kernel
theorem dX4_init_18 : decode cX4_init 18 = .ok (.putfield 13, 3) := by decide +kernel
theorem dX4_init_21 : decode cX4_init 21 = .ok (.aload_n 0, 1) := by decide +kernel
theorem dX4_init_22 : decode cX4_init 22 = .ok (.bipush 33, 2) := by decide +kernel
theorem dX4_init_24 : decode cX4_init 24 = .ok (.newarray .boolean, 2) := by decide +kernel
theorem dX4_init_26 : decode cX4_init 26 = .ok (.putfield 16, 3) := by decide +kernel
theorem dX4_init_29 : decode cX4_init 29 = .ok (.aload_n 0, 1) := by decide +kernel
theorem dX4_init_30 : decode cX4_init 30 = .ok (.sipush 1799, 3) := by decide +kernel
theorem dX4_init_33 : decode cX4_init 33 = .ok (.newarray .int, 2) := by decide +kernel
theorem dX4_init_35 : decode cX4_init 35 = .ok (.putfield 20, 3) := by decide +kernel
theorem dX4_init_38 : decode cX4_init 38 = .ok (.aload_n 0, 1) := by decide +kernel
theorem dX4_init_39 : decode cX4_init 39 = .ok (.sipush 20000, 3) := by decide +kernel
theorem dX4_init_42 : decode cX4_init 42 = .ok (.newarray .byte, 2) := by decide +kernel
theorem dX4_init_44 : decode cX4_init 44 = .ok (.putfield 23, 3) := by decide +kernel
theorem dX4_init_47 : decode cX4_init 47 = .ok (.aload_n 0, 1) := by decide +kernel
theorem dX4_init_48 : decode cX4_init 48 = .ok (.bipush 7, 2) := by decide +kernel
theorem dX4_init_50 : decode cX4_init 50 = .ok (.newarray .int, 2) := by decide +kernel
theorem dX4_init_52 : decode cX4_init 52 = .ok (.dup, 1) := by decide +kernel
theorem dX4_init_53 : decode cX4_init 53 = .ok (.iconst 0, 1) := by decide +kernel
theorem dX4_init_54 : decode cX4_init 54 = .ok (.sipush 277, 3) := by decide +kernel
theorem dX4_init_57 : decode cX4_init 57 = .ok (.iastore, 1) := by decide +kernel
theorem dX4_init_58 : decode cX4_init 58 = .ok (.dup, 1) := by decide +kernel
theorem dX4_init_59 : decode cX4_init 59 = .ok (.iconst 1, 1) := by decide +kernel
theorem dX4_init_60 : decode cX4_init 60 = .ok (.iconst 0, 1) := by decide +kernel
theorem dX4_init_61 : decode cX4_init 61 = .ok (.iastore, 1) := by decide +kernel
theorem dX4_init_62 : decode cX4_init 62 = .ok (.dup, 1) := by decide +kernel
theorem dX4_init_63 : decode cX4_init 63 = .ok (.iconst 2, 1) := by decide +kernel
theorem dX4_init_64 : decode cX4_init 64 = .ok (.sipush 1000, 3) := by decide +kernel
theorem dX4_init_67 : decode cX4_init 67 = .ok (.iastore, 1) := by decide +kernel
theorem dX4_init_68 : decode cX4_init 68 = .ok (.dup, 1) := by decide +kernel
theorem dX4_init_69 : decode cX4_init 69 = .ok (.iconst 3, 1) := by decide +kernel
theorem dX4_init_70 : decode cX4_init 70 = .ok (.sipush 1200, 3) := by decide +kernel
theorem dX4_init_73 : decode cX4_init 73 = .ok (.iastore, 1) := by decide +kernel
theorem dX4_init_74 : decode cX4_init 74 = .ok (.dup, 1) := by decide +kernel
theorem dX4_init_75 : decode cX4_init 75 = .ok (.iconst 4, 1) := by decide +kernel
theorem dX4_init_76 : decode cX4_init 76 = .ok (.iconst 0, 1) := by decide +kernel
theorem dX4_init_77 : decode cX4_init 77 = .ok (.iastore, 1) := by decide +kernel
theorem dX4_init_78 : decode cX4_init 78 = .ok (.dup, 1) := by decide +kernel
theorem dX4_init_79 : decode cX4_init 79 = .ok (.iconst 5, 1) := by decide +kernel
theorem dX4_init_80 : decode cX4_init 80 = .ok (.iconst 0, 1) := by decide +kernel
theorem dX4_init_81 : decode cX4_init 81 = .ok (.iastore, 1) := by decide +kernel
theorem dX4_init_82 : decode cX4_init 82 = .ok (.dup, 1) := by decide +kernel
theorem dX4_init_83 : decode cX4_init 83 = .ok (.bipush 6, 2) := by decide +kernel
theorem dX4_init_85 : decode cX4_init 85 = .ok (.iconst 3, 1) := by decide +kernel
theorem dX4_init_86 : decode cX4_init 86 = .ok (.iastore, 1) := by decide +kernel
theorem dX4_init_87 : decode cX4_init 87 = .ok (.putfield 27, 3) := by decide +kernel
theorem dX4_init_90 : decode cX4_init 90 = .ok (.aload_n 0, 1) := by decide +kernel
theorem dX4_init_91 : decode cX4_init 91 = .ok (.bipush 14, 2) := by decide +kernel
theorem dX4_init_93 : decode cX4_init 93 = .ok (.newarray .int, 2) := by decide +kernel
theorem dX4_init_95 : decode cX4_init 95 = .ok (.dup, 1) := by decide +kernel
theorem dX4_init_96 : decode cX4_init 96 = .ok (.iconst 0, 1) := by decide +kernel
theorem dX4_init_97 : decode cX4_init 97 = .ok (.sipush 277, 3) := by decide +kernel
theorem dX4_init_100 : decode cX4_init 100 = .ok (.iastore, 1) := by decide +kernel
theorem dX4_init_101 : decode cX4_init 101 = .ok (.dup, 1) := by decide +kernel
theorem dX4_init_102 : decode cX4_init 102 = .ok (.iconst 1, 1) := by decide +kernel
theorem dX4_init_103 : decode cX4_init 103 = .ok (.iconst 0, 1) := by decide +kernel
theorem dX4_init_104 : decode cX4_init 104 = .ok (.iastore, 1) := by decide +kernel
theorem dX4_init_105 : decode cX4_init 105 = .ok (.dup, 1) := by decide +kernel
theorem dX4_init_106 : decode cX4_init 106 = .ok (.iconst 2, 1) := by decide +kernel
theorem dX4_init_107 : decode cX4_init 107 = .ok (.sipush 1000, 3) := by decide +kernel
theorem dX4_init_110 : decode cX4_init 110 = .ok (.iastore, 1) := by decide +kernel
theorem dX4_init_111 : decode cX4_init 111 = .ok (.dup, 1) := by decide +kernel
theorem dX4_init_112 : decode cX4_init 112 = .ok (.iconst 3, 1) := by decide +kernel
theorem dX4_init_113 : decode cX4_init 113 = .ok (.sipush 1200, 3) := by decide +kernel
theorem dX4_init_116 : decode cX4_init 116 = .ok (.iastore, 1) := by decide +kernel
theorem dX4_init_117 : decode cX4_init 117 = .ok (.dup, 1) := by decide +kernel
theorem dX4_init_118 : decode cX4_init 118 = .ok (.iconst 4, 1) := by decide +kernel
theorem dX4_init_119 : decode cX4_init 119 = .ok (.iconst 0, 1) := by decide +kernel
theorem dX4_init_120 : decode cX4_init 120 = .ok (.iastore, 1) := by decide +kernel
theorem dX4_init_121 : decode cX4_init 121 = .ok (.dup, 1) := by decide +kernel
theorem dX4_init_122 : decode cX4_init 122 = .ok (.iconst 5, 1) := by decide +kernel
theorem dX4_init_123 : decode cX4_init 123 = .ok (.iconst 0, 1) := by decide +kernel
theorem dX4_init_124 : decode cX4_init 124 = .ok (.iastore, 1) := by decide +kernel
theorem dX4_init_125 : decode cX4_init 125 = .ok (.dup, 1) := by decide +kernel
theorem dX4_init_126 : decode cX4_init 126 = .ok (.bipush 6, 2) := by decide +kernel
theorem dX4_init_128 : decode cX4_init 128 = .ok (.iconst 3, 1) := by decide +kernel
theorem dX4_init_129 : decode cX4_init 129 = .ok (.iastore, 1) := by decide +kernel
theorem dX4_init_130 : decode cX4_init 130 = .ok (.dup, 1) := by decide +kernel
theorem dX4_init_131 : decode cX4_init 131 = .ok (.bipush 7, 2) := by decide +kernel
theorem dX4_init_133 : decode cX4_init 133 = .ok (.sipush 277, 3) := by decide +kernel
theorem dX4_init_136 : decode cX4_init 136 = .ok (.iastore, 1) := by decide +kernel
theorem dX4_init_137 : decode cX4_init 137 = .ok (.dup, 1) := by decide +kernel
theorem dX4_init_138 : decode cX4_init 138 = .ok (.bipush 8, 2) := by decide +kernel
theorem dX4_init_140 : decode cX4_init 140 = .ok (.iconst 0, 1) := by decide +kernel
theorem dX4_init_141 : decode cX4_init 141 = .ok (.iastore, 1) := by decide +kernel
theorem dX4_init_142 : decode cX4_init 142 = .ok (.dup, 1) := by decide +kernel
theorem dX4_init_143 : decode cX4_init 143 = .ok (.bipush 9, 2) := by decide +kernel
theorem dX4_init_145 : decode cX4_init 145 = .ok (.sipush 1000, 3) := by decide +kernel
theorem dX4_init_148 : decode cX4_init 148 = .ok (.iastore, 1) := by decide +kernel
theorem dX4_init_149 : decode cX4_init 149 = .ok (.dup, 1) := by decide +kernel
theorem dX4_init_150 : decode cX4_init 150 = .ok (.bipush 10, 2) := by decide +kernel
theorem dX4_init_152 : decode cX4_init 152 = .ok (.sipush 1200, 3) := by decide +kernel
theorem dX4_init_155 : decode cX4_init 155 = .ok (.iastore, 1) := by decide +kernel
theorem dX4_init_156 : decode cX4_init 156 = .ok (.dup, 1) := by decide +kernel
theorem dX4_init_157 : decode cX4_init 157 = .ok (.bipush 11, 2) := by decide +kernel
theorem dX4_init_159 : decode cX4_init 159 = .ok (.iconst 0, 1) := by decide +kernel
theorem dX4_init_160 : decode cX4_init 160 = .ok (.iastore, 1) := by decide +kernel
theorem dX4_init_161 : decode cX4_init 161 = .ok (.dup, 1) := by decide +kernel
theorem dX4_init_162 : decode cX4_init 162 = .ok (.bipush 12, 2) := by decide +kernel
theorem dX4_init_164 : decode cX4_init 164 = .ok (.iconst 0, 1) := by decide +kernel
theorem dX4_init_165 : decode cX4_init 165 = .ok (.iastore, 1) := by decide +kernel
theorem dX4_init_166 : decode cX4_init 166 = .ok (.dup, 1) := by decide +kernel
theorem dX4_init_167 : decode cX4_init 167 = .ok (.bipush 13, 2) := by decide +kernel
theorem dX4_init_169 : decode cX4_init 169 = .ok (.iconst 3, 1) := by decide +kernel
theorem dX4_init_170 : decode cX4_init 170 = .ok (.iastore, 1) := by decide +kernel
theorem dX4_init_171 : decode cX4_init 171 = .ok (.putfield 30, 3) := by decide +kernel
theorem dX4_init_174 : decode cX4_init 174 = .ok (.aload_n 0, 1) := by decide +kernel
theorem dX4_init_175 : decode cX4_init 175 = .ok (.iconst 2, 1) := by decide +kernel
theorem dX4_init_176 : decode cX4_init 176 = .ok (.newarray .int, 2) := by decide +kernel
theorem dX4_init_178 : decode cX4_init 178 = .ok (.dup, 1) := by decide +kernel
theorem dX4_init_179 : decode cX4_init 179 = .ok (.iconst 0, 1) := by decide +kernel
theorem dX4_init_180 : decode cX4_init 180 = .ok (.iconst (-1), 1) := by decide +kernel
theorem dX4_init_181 : decode cX4_init 181 = .ok (.iastore, 1) := by decide +kernel
theorem dX4_init_182 : decode cX4_init 182 = .ok (.dup, 1) := by decide +kernel
theorem dX4_init_183 : decode cX4_init 183 = .ok (.iconst 1, 1) := by decide +kernel
theorem dX4_init_184 : decode cX4_init 184 = .ok (.iconst (-1), 1) := by decide +kernel
theorem dX4_init_185 : decode cX4_init 185 = .ok (.iastore, 1) := by decide +kernel
theorem dX4_init_186 : decode cX4_init 186 = .ok (.putfield 33, 3) := by decide +kernel
theorem dX4_init_189 : decode cX4_init 189 = .ok (.aload_n 0, 1) := by decide +kernel
theorem dX4_init_190 : decode cX4_init 190 = .ok (.iconst 5, 1) := by decide +kernel
theorem dX4_init_191 : decode cX4_init 191 = .ok (.newarray .int, 2) := by decide +kernel
theorem dX4_init_193 : decode cX4_init 193 = .ok (.putfield 36, 3) := by decide +kernel
theorem dX4_init_196 : decode cX4_init 196 = .ok (.aload_n 0, 1) := by decide +kernel
theorem dX4_init_197 : decode cX4_init 197 = .ok (.sipush 2048, 3) := by decide +kernel
theorem dX4_init_200 : decode cX4_init 200 = .ok (.newarray .byte, 2) := by decide +kernel
theorem dX4_init_202 : decode cX4_init 202 = .ok (.putfield 39, 3) := by decide +kernel
theorem dX4_init_205 : decode cX4_init 205 = .ok (.aload_n 0, 1) := by decide +kernel
theorem dX4_init_206 : decode cX4_init 206 = .ok (.bipush 32, 2) := by decide +kernel
theorem dX4_init_208 : decode cX4_init 208 = .ok (.newarray .boolean, 2) := by decide +kernel
theorem dX4_init_210 : decode cX4_init 210 = .ok (.putfield 42, 3) := by decide +kernel
theorem dX4_init_213 : decode cX4_init 213 = .ok (.return_, 1) := by decide +kernel
theorem dX4_thrown_0 : decode cX4_thrown 0 = .ok (.aload_n 0, 1) := by decide +kernel
theorem dX4_thrown_1 : decode cX4_thrown 1 = .ok (.getfield 45, 3) := by decide +kernel
theorem dX4_thrown_4 : decode cX4_thrown 4 = .ok (.ireturn, 1) := by decide +kernel
theorem dX4_fits_0 : decode cX4_fits 0 = .ok (.iload_n 0, 1) := by decide +kernel
theorem dX4_fits_1 : decode cX4_fits 1 = .ok (.tableswitch 140 0 5 #[39, 56, 71, 88, 105, 122], 39) := by decide +kernel
theorem dX4_fits_40 : decode cX4_fits 40 = .ok (.iload_n 1, 1) := by decide +kernel
theorem dX4_fits_41 : decode cX4_fits 41 = .ok (.ifCond .lt 14, 3) := by decide +kernel
theorem dX4_fits_44 : decode cX4_fits 44 = .ok (.iload_n 1, 1) := by decide +kernel
theorem dX4_fits_45 : decode cX4_fits 45 = .ok (.sipush 2047, 3) := by decide +kernel
theorem dX4_fits_48 : decode cX4_fits 48 = .ok (.if_icmp .gt 7, 3) := by decide +kernel
theorem dX4_fits_51 : decode cX4_fits 51 = .ok (.iconst 1, 1) := by decide +kernel
theorem dX4_fits_52 : decode cX4_fits 52 = .ok (.goto 4, 3) := by decide +kernel
theorem dX4_fits_55 : decode cX4_fits 55 = .ok (.iconst 0, 1) := by decide +kernel
theorem dX4_fits_56 : decode cX4_fits 56 = .ok (.ireturn, 1) := by decide +kernel
theorem dX4_fits_57 : decode cX4_fits 57 = .ok (.iload_n 1, 1) := by decide +kernel
theorem dX4_fits_58 : decode cX4_fits 58 = .ok (.ifCond .eq 8, 3) := by decide +kernel
theorem dX4_fits_61 : decode cX4_fits 61 = .ok (.iload_n 1, 1) := by decide +kernel
theorem dX4_fits_62 : decode cX4_fits 62 = .ok (.iconst 1, 1) := by decide +kernel
theorem dX4_fits_63 : decode cX4_fits 63 = .ok (.if_icmp .ne 7, 3) := by decide +kernel
theorem dX4_fits_66 : decode cX4_fits 66 = .ok (.iconst 1, 1) := by decide +kernel
theorem dX4_fits_67 : decode cX4_fits 67 = .ok (.goto 4, 3) := by decide +kernel
theorem dX4_fits_70 : decode cX4_fits 70 = .ok (.iconst 0, 1) := by decide +kernel
theorem dX4_fits_71 : decode cX4_fits 71 = .ok (.ireturn, 1) := by decide +kernel
theorem dX4_fits_72 : decode cX4_fits 72 = .ok (.iload_n 1, 1) := by decide +kernel
theorem dX4_fits_73 : decode cX4_fits 73 = .ok (.iconst 1, 1) := by decide +kernel
theorem dX4_fits_74 : decode cX4_fits 74 = .ok (.if_icmp .lt 13, 3) := by decide +kernel
theorem dX4_fits_77 : decode cX4_fits 77 = .ok (.iload_n 1, 1) := by decide +kernel
theorem dX4_fits_78 : decode cX4_fits 78 = .ok (.ldc 49, 2) := by decide +kernel
theorem dX4_fits_80 : decode cX4_fits 80 = .ok (.if_icmp .gt 7, 3) := by decide +kernel
theorem dX4_fits_83 : decode cX4_fits 83 = .ok (.iconst 1, 1) := by decide +kernel
theorem dX4_fits_84 : decode cX4_fits 84 = .ok (.goto 4, 3) := by decide +kernel
theorem dX4_fits_87 : decode cX4_fits 87 = .ok (.iconst 0, 1) := by decide +kernel
theorem dX4_fits_88 : decode cX4_fits 88 = .ok (.ireturn, 1) := by decide +kernel
theorem dX4_fits_89 : decode cX4_fits 89 = .ok (.iload_n 1, 1) := by decide +kernel
theorem dX4_fits_90 : decode cX4_fits 90 = .ok (.iconst 1, 1) := by decide +kernel
theorem dX4_fits_91 : decode cX4_fits 91 = .ok (.if_icmp .lt 13, 3) := by decide +kernel
theorem dX4_fits_94 : decode cX4_fits 94 = .ok (.iload_n 1, 1) := by decide +kernel
theorem dX4_fits_95 : decode cX4_fits 95 = .ok (.ldc 50, 2) := by decide +kernel
theorem dX4_fits_97 : decode cX4_fits 97 = .ok (.if_icmp .gt 7, 3) := by decide +kernel
theorem dX4_fits_100 : decode cX4_fits 100 = .ok (.iconst 1, 1) := by decide +kernel
theorem dX4_fits_101 : decode cX4_fits 101 = .ok (.goto 4, 3) := by decide +kernel
theorem dX4_fits_104 : decode cX4_fits 104 = .ok (.iconst 0, 1) := by decide +kernel
theorem dX4_fits_105 : decode cX4_fits 105 = .ok (.ireturn, 1) := by decide +kernel
theorem dX4_fits_106 : decode cX4_fits 106 = .ok (.iload_n 1, 1) := by decide +kernel
theorem dX4_fits_107 : decode cX4_fits 107 = .ok (.ifCond .lt 14, 3) := by decide +kernel
theorem dX4_fits_110 : decode cX4_fits 110 = .ok (.iload_n 1, 1) := by decide +kernel
theorem dX4_fits_111 : decode cX4_fits 111 = .ok (.sipush 32767, 3) := by decide +kernel
theorem dX4_fits_114 : decode cX4_fits 114 = .ok (.if_icmp .gt 7, 3) := by decide +kernel
theorem dX4_fits_117 : decode cX4_fits 117 = .ok (.iconst 1, 1) := by decide +kernel
theorem dX4_fits_118 : decode cX4_fits 118 = .ok (.goto 4, 3) := by decide +kernel
theorem dX4_fits_121 : decode cX4_fits 121 = .ok (.iconst 0, 1) := by decide +kernel
theorem dX4_fits_122 : decode cX4_fits 122 = .ok (.ireturn, 1) := by decide +kernel
theorem dX4_fits_123 : decode cX4_fits 123 = .ok (.iload_n 1, 1) := by decide +kernel
theorem dX4_fits_124 : decode cX4_fits 124 = .ok (.bipush (-7), 2) := by decide +kernel
theorem dX4_fits_126 : decode cX4_fits 126 = .ok (.if_icmp .lt 13, 3) := by decide +kernel
theorem dX4_fits_129 : decode cX4_fits 129 = .ok (.iload_n 1, 1) := by decide +kernel
theorem dX4_fits_130 : decode cX4_fits 130 = .ok (.bipush 7, 2) := by decide +kernel
theorem dX4_fits_132 : decode cX4_fits 132 = .ok (.if_icmp .gt 7, 3) := by decide +kernel
theorem dX4_fits_135 : decode cX4_fits 135 = .ok (.iconst 1, 1) := by decide +kernel
theorem dX4_fits_136 : decode cX4_fits 136 = .ok (.goto 4, 3) := by decide +kernel
theorem dX4_fits_139 : decode cX4_fits 139 = .ok (.iconst 0, 1) := by decide +kernel
theorem dX4_fits_140 : decode cX4_fits 140 = .ok (.ireturn, 1) := by decide +kernel
theorem dX4_fits_141 : decode cX4_fits 141 = .ok (.iload_n 0, 1) := by decide +kernel
theorem dX4_fits_142 : decode cX4_fits 142 = .ok (.bipush 6, 2) := by decide +kernel
theorem dX4_fits_144 : decode cX4_fits 144 = .ok (.if_icmp .ne 17, 3) := by decide +kernel
theorem dX4_fits_147 : decode cX4_fits 147 = .ok (.iload_n 1, 1) := by decide +kernel
theorem dX4_fits_148 : decode cX4_fits 148 = .ok (.ifCond .lt 13, 3) := by decide +kernel
theorem dX4_fits_151 : decode cX4_fits 151 = .ok (.iload_n 1, 1) := by decide +kernel
theorem dX4_fits_152 : decode cX4_fits 152 = .ok (.ldc 51, 2) := by decide +kernel
theorem dX4_fits_154 : decode cX4_fits 154 = .ok (.if_icmp .gt 7, 3) := by decide +kernel
theorem dX4_fits_157 : decode cX4_fits 157 = .ok (.iconst 1, 1) := by decide +kernel
theorem dX4_fits_158 : decode cX4_fits 158 = .ok (.goto 4, 3) := by decide +kernel
theorem dX4_fits_161 : decode cX4_fits 161 = .ok (.iconst 0, 1) := by decide +kernel
theorem dX4_fits_162 : decode cX4_fits 162 = .ok (.ireturn, 1) := by decide +kernel
theorem dX4_hand_0 : decode cX4_hand 0 = .ok (.aload_n 0, 1) := by decide +kernel
theorem dX4_hand_1 : decode cX4_hand 1 = .ok (.iconst 0, 1) := by decide +kernel
theorem dX4_hand_2 : decode cX4_hand 2 = .ok (.putfield 45, 3) := by decide +kernel
theorem dX4_hand_5 : decode cX4_hand 5 = .ok (.iload_n 2, 1) := by decide +kernel
theorem dX4_hand_6 : decode cX4_hand 6 = .ok (.ifCond .lt 20, 3) := by decide +kernel
theorem dX4_hand_9 : decode cX4_hand 9 = .ok (.iload_n 2, 1) := by decide +kernel
theorem dX4_hand_10 : decode cX4_hand 10 = .ok (.iload_n 1, 1) := by decide +kernel
theorem dX4_hand_11 : decode cX4_hand 11 = .ok (.ifCond .eq 9, 3) := by decide +kernel
theorem dX4_hand_14 : decode cX4_hand 14 = .ok (.sipush 255, 3) := by decide +kernel
theorem dX4_hand_17 : decode cX4_hand 17 = .ok (.goto 6, 3) := by decide +kernel
theorem dX4_hand_20 : decode cX4_hand 20 = .ok (.sipush 32767, 3) := by decide +kernel
theorem dX4_hand_23 : decode cX4_hand 23 = .ok (.if_icmp .le 5, 3) := by decide +kernel
theorem dX4_hand_26 : decode cX4_hand 26 = .ok (.iconst 0, 1) := by decide +kernel
theorem dX4_hand_27 : decode cX4_hand 27 = .ok (.ireturn, 1) := by decide +kernel
theorem dX4_hand_28 : decode cX4_hand 28 = .ok (.aload_n 0, 1) := by decide +kernel
theorem dX4_hand_29 : decode cX4_hand 29 = .ok (.iload_n 1, 1) := by decide +kernel
theorem dX4_hand_30 : decode cX4_hand 30 = .ok (.ifCond .eq 7, 3) := by decide +kernel
theorem dX4_hand_33 : decode cX4_hand 33 = .ok (.iload_n 2, 1) := by decide +kernel
theorem dX4_hand_34 : decode cX4_hand 34 = .ok (.goto 7, 3) := by decide +kernel
theorem dX4_hand_37 : decode cX4_hand 37 = .ok (.aload_n 0, 1) := by decide +kernel
theorem dX4_hand_38 : decode cX4_hand 38 = .ok (.getfield 52, 3) := by decide +kernel
theorem dX4_hand_41 : decode cX4_hand 41 = .ok (.putfield 52, 3) := by decide +kernel
theorem dX4_hand_44 : decode cX4_hand 44 = .ok (.aload_n 0, 1) := by decide +kernel
theorem dX4_hand_45 : decode cX4_hand 45 = .ok (.iload_n 1, 1) := by decide +kernel
theorem dX4_hand_46 : decode cX4_hand 46 = .ok (.ifCond .eq 10, 3) := by decide +kernel
theorem dX4_hand_49 : decode cX4_hand 49 = .ok (.aload_n 0, 1) := by decide +kernel
theorem dX4_hand_50 : decode cX4_hand 50 = .ok (.getfield 55, 3) := by decide +kernel
theorem dX4_hand_53 : decode cX4_hand 53 = .ok (.goto 4, 3) := by decide +kernel
theorem dX4_hand_56 : decode cX4_hand 56 = .ok (.iload_n 2, 1) := by decide +kernel
theorem dX4_hand_57 : decode cX4_hand 57 = .ok (.putfield 55, 3) := by decide +kernel
theorem dX4_hand_60 : decode cX4_hand 60 = .ok (.aload_n 0, 1) := by decide +kernel
theorem dX4_hand_61 : decode cX4_hand 61 = .ok (.iconst 0, 1) := by decide +kernel
theorem dX4_hand_62 : decode cX4_hand 62 = .ok (.putfield 58, 3) := by decide +kernel
theorem dX4_hand_65 : decode cX4_hand 65 = .ok (.iconst 1, 1) := by decide +kernel
theorem dX4_hand_66 : decode cX4_hand 66 = .ok (.ireturn, 1) := by decide +kernel
theorem dX4_attribute_0 : decode cX4_attribute 0 = .ok (.aload_n 0, 1) := by decide +kernel
theorem dX4_attribute_1 : decode cX4_attribute 1 = .ok (.iconst 0, 1) := by decide +kernel
theorem dX4_attribute_2 : decode cX4_attribute 2 = .ok (.putfield 45, 3) := by decide +kernel
theorem dX4_attribute_5 : decode cX4_attribute 5 = .ok (.iload_n 3, 1) := by decide +kernel
theorem dX4_attribute_6 : decode cX4_attribute 6 = .ok (.iload 4, 2) := by decide +kernel
theorem dX4_attribute_8 : decode cX4_attribute 8 = .ok (.invokestatic 62, 3) := by decide +kernel
theorem dX4_attribute_11 : decode cX4_attribute 11 = .ok (.ifCond .eq 16, 3) := by decide +kernel
theorem dX4_attribute_14 : decode cX4_attribute 14 = .ok (.iload_n 1, 1) := by decide +kernel
theorem dX4_attribute_15 : decode cX4_attribute 15 = .ok (.ifCond .eq 14, 3) := by decide +kernel
theorem dX4_attribute_18 : decode cX4_attribute 18 = .ok (.iload_n 2, 1) := by decide +kernel
theorem dX4_attribute_19 : decode cX4_attribute 19 = .ok (.ifCond .eq 10, 3) := by decide +kernel
theorem dX4_attribute_22 : decode cX4_attribute 22 = .ok (.iload_n 2, 1) := by decide +kernel
theorem dX4_attribute_23 : decode cX4_attribute 23 = .ok (.iconst 1, 1) := by decide +kernel
theorem dX4_attribute_24 : decode cX4_attribute 24 = .ok (.if_icmp .eq 5, 3) := by decide +kernel
theorem dX4_attribute_27 : decode cX4_attribute 27 = .ok (.iconst 0, 1) := by decide +kernel
theorem dX4_attribute_28 : decode cX4_attribute 28 = .ok (.ireturn, 1) := by decide +kernel
theorem dX4_attribute_29 : decode cX4_attribute 29 = .ok (.iload_n 1, 1) := by decide +kernel
theorem dX4_attribute_30 : decode cX4_attribute 30 = .ok (.ifCond .eq 26, 3) := by decide +kernel
theorem dX4_attribute_33 : decode cX4_attribute 33 = .ok (.aload_n 0, 1) := by decide +kernel
theorem dX4_attribute_34 : decode cX4_attribute 34 = .ok (.getfield 30, 3) := by decide +kernel
theorem dX4_attribute_37 : decode cX4_attribute 37 = .ok (.bipush 7, 2) := by decide +kernel
theorem dX4_attribute_39 : decode cX4_attribute 39 = .ok (.iload_n 2, 1) := by decide +kernel
theorem dX4_attribute_40 : decode cX4_attribute 40 = .ok (.imul, 1) := by decide +kernel
theorem dX4_attribute_41 : decode cX4_attribute 41 = .ok (.iload_n 3, 1) := by decide +kernel
theorem dX4_attribute_42 : decode cX4_attribute 42 = .ok (.iadd, 1) := by decide +kernel
theorem dX4_attribute_43 : decode cX4_attribute 43 = .ok (.iload 4, 2) := by decide +kernel
theorem dX4_attribute_45 : decode cX4_attribute 45 = .ok (.iastore, 1) := by decide +kernel
theorem dX4_attribute_46 : decode cX4_attribute 46 = .ok (.aload_n 0, 1) := by decide +kernel
theorem dX4_attribute_47 : decode cX4_attribute 47 = .ok (.getfield 33, 3) := by decide +kernel
theorem dX4_attribute_50 : decode cX4_attribute 50 = .ok (.iload_n 2, 1) := by decide +kernel
theorem dX4_attribute_51 : decode cX4_attribute 51 = .ok (.iconst (-1), 1) := by decide +kernel
theorem dX4_attribute_52 : decode cX4_attribute 52 = .ok (.iastore, 1) := by decide +kernel
theorem dX4_attribute_53 : decode cX4_attribute 53 = .ok (.goto 11, 3) := by decide +kernel
theorem dX4_attribute_56 : decode cX4_attribute 56 = .ok (.aload_n 0, 1) := by decide +kernel
theorem dX4_attribute_57 : decode cX4_attribute 57 = .ok (.getfield 27, 3) := by decide +kernel
theorem dX4_attribute_60 : decode cX4_attribute 60 = .ok (.iload_n 3, 1) := by decide +kernel
theorem dX4_attribute_61 : decode cX4_attribute 61 = .ok (.iload 4, 2) := by decide +kernel
theorem dX4_attribute_63 : decode cX4_attribute 63 = .ok (.iastore, 1) := by decide +kernel
theorem dX4_attribute_64 : decode cX4_attribute 64 = .ok (.iconst 1, 1) := by decide +kernel
theorem dX4_attribute_65 : decode cX4_attribute 65 = .ok (.ireturn, 1) := by decide +kernel
theorem dX4_fontOf_0 : decode cX4_fontOf 0 = .ok (.iconst (-1), 1) := by decide +kernel
theorem dX4_fontOf_1 : decode cX4_fontOf 1 = .ok (.istore_n 2, 1) := by decide +kernel
theorem dX4_fontOf_2 : decode cX4_fontOf 2 = .ok (.iconst 0, 1) := by decide +kernel
theorem dX4_fontOf_3 : decode cX4_fontOf 3 = .ok (.istore_n 3, 1) := by decide +kernel
theorem dX4_fontOf_4 : decode cX4_fontOf 4 = .ok (.iload_n 3, 1) := by decide +kernel
theorem dX4_fontOf_5 : decode cX4_fontOf 5 = .ok (.aload_n 0, 1) := by decide +kernel
theorem dX4_fontOf_6 : decode cX4_fontOf 6 = .ok (.getfield 66, 3) := by decide +kernel
theorem dX4_fontOf_9 : decode cX4_fontOf 9 = .ok (.if_icmp .ge 25, 3) := by decide +kernel
theorem dX4_fontOf_12 : decode cX4_fontOf 12 = .ok (.aload_n 0, 1) := by decide +kernel
theorem dX4_fontOf_13 : decode cX4_fontOf 13 = .ok (.getfield 7, 3) := by decide +kernel
theorem dX4_fontOf_16 : decode cX4_fontOf 16 = .ok (.iload_n 3, 1) := by decide +kernel
theorem dX4_fontOf_17 : decode cX4_fontOf 17 = .ok (.iaload, 1) := by decide +kernel
theorem dX4_fontOf_18 : decode cX4_fontOf 18 = .ok (.iload_n 1, 1) := by decide +kernel
theorem dX4_fontOf_19 : decode cX4_fontOf 19 = .ok (.if_icmp .ne 7, 3) := by decide +kernel
theorem dX4_fontOf_22 : decode cX4_fontOf 22 = .ok (.iload_n 3, 1) := by decide +kernel
theorem dX4_fontOf_23 : decode cX4_fontOf 23 = .ok (.goto 4, 3) := by decide +kernel
theorem dX4_fontOf_26 : decode cX4_fontOf 26 = .ok (.iload_n 2, 1) := by decide +kernel
theorem dX4_fontOf_27 : decode cX4_fontOf 27 = .ok (.istore_n 2, 1) := by decide +kernel
theorem dX4_fontOf_28 : decode cX4_fontOf 28 = .ok (.iinc 3 1, 3) := by decide +kernel
theorem dX4_fontOf_31 : decode cX4_fontOf 31 = .ok (.goto (-27), 3) := by decide +kernel
theorem dX4_fontOf_34 : decode cX4_fontOf 34 = .ok (.iload_n 2, 1) := by decide +kernel
theorem dX4_fontOf_35 : decode cX4_fontOf 35 = .ok (.ireturn, 1) := by decide +kernel
theorem dX4_bytesOf_0 : decode cX4_bytesOf 0 = .ok (.aload_n 0, 1) := by decide +kernel
theorem dX4_bytesOf_1 : decode cX4_bytesOf 1 = .ok (.getfield 20, 3) := by decide +kernel
theorem dX4_bytesOf_4 : decode cX4_bytesOf 4 = .ok (.bipush 7, 2) := by decide +kernel
theorem dX4_bytesOf_6 : decode cX4_bytesOf 6 = .ok (.iload_n 1, 1) := by decide +kernel
theorem dX4_bytesOf_7 : decode cX4_bytesOf 7 = .ok (.imul, 1) := by decide +kernel
theorem dX4_bytesOf_8 : decode cX4_bytesOf 8 = .ok (.iconst 5, 1) := by decide +kernel
theorem dX4_bytesOf_9 : decode cX4_bytesOf 9 = .ok (.iadd, 1) := by decide +kernel
theorem dX4_bytesOf_10 : decode cX4_bytesOf 10 = .ok (.iaload, 1) := by decide +kernel
theorem dX4_bytesOf_11 : decode cX4_bytesOf 11 = .ok (.aload_n 0, 1) := by decide +kernel
theorem dX4_bytesOf_12 : decode cX4_bytesOf 12 = .ok (.getfield 20, 3) := by decide +kernel
theorem dX4_bytesOf_15 : decode cX4_bytesOf 15 = .ok (.bipush 7, 2) := by decide +kernel
theorem dX4_bytesOf_17 : decode cX4_bytesOf 17 = .ok (.iload_n 1, 1) := by decide +kernel
theorem dX4_bytesOf_18 : decode cX4_bytesOf 18 = .ok (.imul, 1) := by decide +kernel
theorem dX4_bytesOf_19 : decode cX4_bytesOf 19 = .ok (.iconst 4, 1) := by decide +kernel
theorem dX4_bytesOf_20 : decode cX4_bytesOf 20 = .ok (.iadd, 1) := by decide +kernel
theorem dX4_bytesOf_21 : decode cX4_bytesOf 21 = .ok (.iaload, 1) := by decide +kernel
theorem dX4_bytesOf_22 : decode cX4_bytesOf 22 = .ok (.bipush 7, 2) := by decide +kernel
theorem dX4_bytesOf_24 : decode cX4_bytesOf 24 = .ok (.iadd, 1) := by decide +kernel
theorem dX4_bytesOf_25 : decode cX4_bytesOf 25 = .ok (.bipush 8, 2) := by decide +kernel
theorem dX4_bytesOf_27 : decode cX4_bytesOf 27 = .ok (.idiv, 1) := by decide +kernel
theorem dX4_bytesOf_28 : decode cX4_bytesOf 28 = .ok (.imul, 1) := by decide +kernel
theorem dX4_bytesOf_29 : decode cX4_bytesOf 29 = .ok (.ireturn, 1) := by decide +kernel
theorem dX4_startOf_0 : decode cX4_startOf 0 = .ok (.iconst 0, 1) := by decide +kernel
theorem dX4_startOf_1 : decode cX4_startOf 1 = .ok (.istore_n 2, 1) := by decide +kernel
theorem dX4_startOf_2 : decode cX4_startOf 2 = .ok (.iconst 0, 1) := by decide +kernel
theorem dX4_startOf_3 : decode cX4_startOf 3 = .ok (.istore_n 3, 1) := by decide +kernel
theorem dX4_startOf_4 : decode cX4_startOf 4 = .ok (.iload_n 3, 1) := by decide +kernel
theorem dX4_startOf_5 : decode cX4_startOf 5 = .ok (.iload_n 1, 1) := by decide +kernel
theorem dX4_startOf_6 : decode cX4_startOf 6 = .ok (.if_icmp .ge 17, 3) := by decide +kernel
theorem dX4_startOf_9 : decode cX4_startOf 9 = .ok (.iload_n 2, 1) := by decide +kernel
theorem dX4_startOf_10 : decode cX4_startOf 10 = .ok (.aload_n 0, 1) := by decide +kernel
theorem dX4_startOf_11 : decode cX4_startOf 11 = .ok (.iload_n 3, 1) := by decide +kernel
theorem dX4_startOf_12 : decode cX4_startOf 12 = .ok (.invokevirtual 69, 3) := by decide +kernel
theorem dX4_startOf_15 : decode cX4_startOf 15 = .ok (.iadd, 1) := by decide +kernel
theorem dX4_startOf_16 : decode cX4_startOf 16 = .ok (.istore_n 2, 1) := by decide +kernel
theorem dX4_startOf_17 : decode cX4_startOf 17 = .ok (.iinc 3 1, 3) := by decide +kernel
theorem dX4_startOf_20 : decode cX4_startOf 20 = .ok (.goto (-16), 3) := by decide +kernel
theorem dX4_startOf_23 : decode cX4_startOf 23 = .ok (.iload_n 2, 1) := by decide +kernel
theorem dX4_startOf_24 : decode cX4_startOf 24 = .ok (.ireturn, 1) := by decide +kernel
theorem dX4_glyphOf_0 : decode cX4_glyphOf 0 = .ok (.iconst (-1), 1) := by decide +kernel
theorem dX4_glyphOf_1 : decode cX4_glyphOf 1 = .ok (.istore_n 3, 1) := by decide +kernel
theorem dX4_glyphOf_2 : decode cX4_glyphOf 2 = .ok (.iconst 0, 1) := by decide +kernel
theorem dX4_glyphOf_3 : decode cX4_glyphOf 3 = .ok (.istore 4, 2) := by decide +kernel
theorem dX4_glyphOf_5 : decode cX4_glyphOf 5 = .ok (.iload 4, 2) := by decide +kernel
theorem dX4_glyphOf_7 : decode cX4_glyphOf 7 = .ok (.aload_n 0, 1) := by decide +kernel
theorem dX4_glyphOf_8 : decode cX4_glyphOf 8 = .ok (.getfield 73, 3) := by decide +kernel
theorem dX4_glyphOf_11 : decode cX4_glyphOf 11 = .ok (.if_icmp .ge 46, 3) := by decide +kernel
theorem dX4_glyphOf_14 : decode cX4_glyphOf 14 = .ok (.aload_n 0, 1) := by decide +kernel
theorem dX4_glyphOf_15 : decode cX4_glyphOf 15 = .ok (.getfield 20, 3) := by decide +kernel
theorem dX4_glyphOf_18 : decode cX4_glyphOf 18 = .ok (.bipush 7, 2) := by decide +kernel
theorem dX4_glyphOf_20 : decode cX4_glyphOf 20 = .ok (.iload 4, 2) := by decide +kernel
theorem dX4_glyphOf_22 : decode cX4_glyphOf 22 = .ok (.imul, 1) := by decide +kernel
theorem dX4_glyphOf_23 : decode cX4_glyphOf 23 = .ok (.iaload, 1) := by decide +kernel
theorem dX4_glyphOf_24 : decode cX4_glyphOf 24 = .ok (.iload_n 1, 1) := by decide +kernel
theorem dX4_glyphOf_25 : decode cX4_glyphOf 25 = .ok (.if_icmp .ne 24, 3) := by decide +kernel
theorem dX4_glyphOf_28 : decode cX4_glyphOf 28 = .ok (.aload_n 0, 1) := by decide +kernel
theorem dX4_glyphOf_29 : decode cX4_glyphOf 29 = .ok (.getfield 20, 3) := by decide +kernel
theorem dX4_glyphOf_32 : decode cX4_glyphOf 32 = .ok (.bipush 7, 2) := by decide +kernel
theorem dX4_glyphOf_34 : decode cX4_glyphOf 34 = .ok (.iload 4, 2) := by decide +kernel
theorem dX4_glyphOf_36 : decode cX4_glyphOf 36 = .ok (.imul, 1) := by decide +kernel
theorem dX4_glyphOf_37 : decode cX4_glyphOf 37 = .ok (.iconst 1, 1) := by decide +kernel
theorem dX4_glyphOf_38 : decode cX4_glyphOf 38 = .ok (.iadd, 1) := by decide +kernel
theorem dX4_glyphOf_39 : decode cX4_glyphOf 39 = .ok (.iaload, 1) := by decide +kernel
theorem dX4_glyphOf_40 : decode cX4_glyphOf 40 = .ok (.iload_n 2, 1) := by decide +kernel
theorem dX4_glyphOf_41 : decode cX4_glyphOf 41 = .ok (.if_icmp .ne 8, 3) := by decide +kernel
theorem dX4_glyphOf_44 : decode cX4_glyphOf 44 = .ok (.iload 4, 2) := by decide +kernel
theorem dX4_glyphOf_46 : decode cX4_glyphOf 46 = .ok (.goto 4, 3) := by decide +kernel
theorem dX4_glyphOf_49 : decode cX4_glyphOf 49 = .ok (.iload_n 3, 1) := by decide +kernel
theorem dX4_glyphOf_50 : decode cX4_glyphOf 50 = .ok (.istore_n 3, 1) := by decide +kernel
theorem dX4_glyphOf_51 : decode cX4_glyphOf 51 = .ok (.iinc 4 1, 3) := by decide +kernel
theorem dX4_glyphOf_54 : decode cX4_glyphOf 54 = .ok (.goto (-49), 3) := by decide +kernel
theorem dX4_glyphOf_57 : decode cX4_glyphOf 57 = .ok (.iload_n 3, 1) := by decide +kernel
theorem dX4_glyphOf_58 : decode cX4_glyphOf 58 = .ok (.ireturn, 1) := by decide +kernel
theorem dX4_goGlyph_0 : decode cX4_goGlyph 0 = .ok (.aload_n 0, 1) := by decide +kernel
theorem dX4_goGlyph_1 : decode cX4_goGlyph 1 = .ok (.iload_n 1, 1) := by decide +kernel
theorem dX4_goGlyph_2 : decode cX4_goGlyph 2 = .ok (.invokevirtual 76, 3) := by decide +kernel
theorem dX4_goGlyph_5 : decode cX4_goGlyph 5 = .ok (.istore_n 2, 1) := by decide +kernel
theorem dX4_goGlyph_6 : decode cX4_goGlyph 6 = .ok (.aload_n 0, 1) := by decide +kernel
theorem dX4_goGlyph_7 : decode cX4_goGlyph 7 = .ok (.iload_n 1, 1) := by decide +kernel
theorem dX4_goGlyph_8 : decode cX4_goGlyph 8 = .ok (.invokevirtual 69, 3) := by decide +kernel
theorem dX4_goGlyph_11 : decode cX4_goGlyph 11 = .ok (.istore_n 3, 1) := by decide +kernel
theorem dX4_goGlyph_12 : decode cX4_goGlyph 12 = .ok (.iload_n 2, 1) := by decide +kernel
theorem dX4_goGlyph_13 : decode cX4_goGlyph 13 = .ok (.iload_n 3, 1) := by decide +kernel
theorem dX4_goGlyph_14 : decode cX4_goGlyph 14 = .ok (.iadd, 1) := by decide +kernel
theorem dX4_goGlyph_15 : decode cX4_goGlyph 15 = .ok (.istore 4, 2) := by decide +kernel
theorem dX4_goGlyph_17 : decode cX4_goGlyph 17 = .ok (.iload 4, 2) := by decide +kernel
theorem dX4_goGlyph_19 : decode cX4_goGlyph 19 = .ok (.aload_n 0, 1) := by decide +kernel
theorem dX4_goGlyph_20 : decode cX4_goGlyph 20 = .ok (.getfield 79, 3) := by decide +kernel
theorem dX4_goGlyph_23 : decode cX4_goGlyph 23 = .ok (.if_icmp .ge 25, 3) := by decide +kernel
theorem dX4_goGlyph_26 : decode cX4_goGlyph 26 = .ok (.aload_n 0, 1) := by decide +kernel
theorem dX4_goGlyph_27 : decode cX4_goGlyph 27 = .ok (.getfield 23, 3) := by decide +kernel
theorem dX4_goGlyph_30 : decode cX4_goGlyph 30 = .ok (.iload 4, 2) := by decide +kernel
theorem dX4_goGlyph_32 : decode cX4_goGlyph 32 = .ok (.iload_n 3, 1) := by decide +kernel
theorem dX4_goGlyph_33 : decode cX4_goGlyph 33 = .ok (.isub, 1) := by decide +kernel
theorem dX4_goGlyph_34 : decode cX4_goGlyph 34 = .ok (.aload_n 0, 1) := by decide +kernel
theorem dX4_goGlyph_35 : decode cX4_goGlyph 35 = .ok (.getfield 23, 3) := by decide +kernel
theorem dX4_goGlyph_38 : decode cX4_goGlyph 38 = .ok (.iload 4, 2) := by decide +kernel
theorem dX4_goGlyph_40 : decode cX4_goGlyph 40 = .ok (.baload, 1) := by decide +kernel
theorem dX4_goGlyph_41 : decode cX4_goGlyph 41 = .ok (.bastore, 1) := by decide +kernel
theorem dX4_goGlyph_42 : decode cX4_goGlyph 42 = .ok (.iinc 4 1, 3) := by decide +kernel
theorem dX4_goGlyph_45 : decode cX4_goGlyph 45 = .ok (.goto (-28), 3) := by decide +kernel
theorem dX4_goGlyph_48 : decode cX4_goGlyph 48 = .ok (.aload_n 0, 1) := by decide +kernel
theorem dX4_goGlyph_49 : decode cX4_goGlyph 49 = .ok (.dup, 1) := by decide +kernel
theorem dX4_goGlyph_50 : decode cX4_goGlyph 50 = .ok (.getfield 79, 3) := by decide +kernel
theorem dX4_goGlyph_53 : decode cX4_goGlyph 53 = .ok (.iload_n 3, 1) := by decide +kernel
theorem dX4_goGlyph_54 : decode cX4_goGlyph 54 = .ok (.isub, 1) := by decide +kernel
theorem dX4_goGlyph_55 : decode cX4_goGlyph 55 = .ok (.putfield 79, 3) := by decide +kernel
theorem dX4_goGlyph_58 : decode cX4_goGlyph 58 = .ok (.aload_n 0, 1) := by decide +kernel
theorem dX4_goGlyph_59 : decode cX4_goGlyph 59 = .ok (.dup, 1) := by decide +kernel
theorem dX4_goGlyph_60 : decode cX4_goGlyph 60 = .ok (.getfield 73, 3) := by decide +kernel
theorem dX4_goGlyph_63 : decode cX4_goGlyph 63 = .ok (.iconst 1, 1) := by decide +kernel
theorem dX4_goGlyph_64 : decode cX4_goGlyph 64 = .ok (.isub, 1) := by decide +kernel
theorem dX4_goGlyph_65 : decode cX4_goGlyph 65 = .ok (.putfield 73, 3) := by decide +kernel
theorem dX4_goGlyph_68 : decode cX4_goGlyph 68 = .ok (.bipush 7, 2) := by decide +kernel
theorem dX4_goGlyph_70 : decode cX4_goGlyph 70 = .ok (.iload_n 1, 1) := by decide +kernel
theorem dX4_goGlyph_71 : decode cX4_goGlyph 71 = .ok (.imul, 1) := by decide +kernel
theorem dX4_goGlyph_72 : decode cX4_goGlyph 72 = .ok (.istore 4, 2) := by decide +kernel
theorem dX4_goGlyph_74 : decode cX4_goGlyph 74 = .ok (.iload 4, 2) := by decide +kernel
theorem dX4_goGlyph_76 : decode cX4_goGlyph 76 = .ok (.bipush 7, 2) := by decide +kernel
theorem dX4_goGlyph_78 : decode cX4_goGlyph 78 = .ok (.aload_n 0, 1) := by decide +kernel
theorem dX4_goGlyph_79 : decode cX4_goGlyph 79 = .ok (.getfield 73, 3) := by decide +kernel
theorem dX4_goGlyph_82 : decode cX4_goGlyph 82 = .ok (.imul, 1) := by decide +kernel
theorem dX4_goGlyph_83 : decode cX4_goGlyph 83 = .ok (.if_icmp .ge 26, 3) := by decide +kernel
theorem dX4_goGlyph_86 : decode cX4_goGlyph 86 = .ok (.aload_n 0, 1) := by decide +kernel
theorem dX4_goGlyph_87 : decode cX4_goGlyph 87 = .ok (.getfield 20, 3) := by decide +kernel
theorem dX4_goGlyph_90 : decode cX4_goGlyph 90 = .ok (.iload 4, 2) := by decide +kernel
theorem dX4_goGlyph_92 : decode cX4_goGlyph 92 = .ok (.aload_n 0, 1) := by decide +kernel
theorem dX4_goGlyph_93 : decode cX4_goGlyph 93 = .ok (.getfield 20, 3) := by decide +kernel
theorem dX4_goGlyph_96 : decode cX4_goGlyph 96 = .ok (.iload 4, 2) := by decide +kernel
theorem dX4_goGlyph_98 : decode cX4_goGlyph 98 = .ok (.bipush 7, 2) := by decide +kernel
theorem dX4_goGlyph_100 : decode cX4_goGlyph 100 = .ok (.iadd, 1) := by decide +kernel
theorem dX4_goGlyph_101 : decode cX4_goGlyph 101 = .ok (.iaload, 1) := by decide +kernel
theorem dX4_goGlyph_102 : decode cX4_goGlyph 102 = .ok (.iastore, 1) := by decide +kernel
theorem dX4_goGlyph_103 : decode cX4_goGlyph 103 = .ok (.iinc 4 1, 3) := by decide +kernel
theorem dX4_goGlyph_106 : decode cX4_goGlyph 106 = .ok (.goto (-32), 3) := by decide +kernel
theorem dX4_goGlyph_109 : decode cX4_goGlyph 109 = .ok (.return_, 1) := by decide +kernel
theorem dX4_goFont_0 : decode cX4_goFont 0 = .ok (.aload_n 0, 1) := by decide +kernel
theorem dX4_goFont_1 : decode cX4_goFont 1 = .ok (.getfield 73, 3) := by decide +kernel
theorem dX4_goFont_4 : decode cX4_goFont 4 = .ok (.iconst 1, 1) := by decide +kernel
theorem dX4_goFont_5 : decode cX4_goFont 5 = .ok (.isub, 1) := by decide +kernel
theorem dX4_goFont_6 : decode cX4_goFont 6 = .ok (.istore_n 2, 1) := by decide +kernel
theorem dX4_goFont_7 : decode cX4_goFont 7 = .ok (.iload_n 2, 1) := by decide +kernel
theorem dX4_goFont_8 : decode cX4_goFont 8 = .ok (.ifCond .lt 32, 3) := by decide +kernel
theorem dX4_goFont_11 : decode cX4_goFont 11 = .ok (.aload_n 0, 1) := by decide +kernel
theorem dX4_goFont_12 : decode cX4_goFont 12 = .ok (.getfield 20, 3) := by decide +kernel
theorem dX4_goFont_15 : decode cX4_goFont 15 = .ok (.bipush 7, 2) := by decide +kernel
theorem dX4_goFont_17 : decode cX4_goFont 17 = .ok (.iload_n 2, 1) := by decide +kernel
theorem dX4_goFont_18 : decode cX4_goFont 18 = .ok (.imul, 1) := by decide +kernel
theorem dX4_goFont_19 : decode cX4_goFont 19 = .ok (.iaload, 1) := by decide +kernel
theorem dX4_goFont_20 : decode cX4_goFont 20 = .ok (.aload_n 0, 1) := by decide +kernel
theorem dX4_goFont_21 : decode cX4_goFont 21 = .ok (.getfield 7, 3) := by decide +kernel
theorem dX4_goFont_24 : decode cX4_goFont 24 = .ok (.iload_n 1, 1) := by decide +kernel
theorem dX4_goFont_25 : decode cX4_goFont 25 = .ok (.iaload, 1) := by decide +kernel
theorem dX4_goFont_26 : decode cX4_goFont 26 = .ok (.if_icmp .ne 8, 3) := by decide +kernel
theorem dX4_goFont_29 : decode cX4_goFont 29 = .ok (.aload_n 0, 1) := by decide +kernel
theorem dX4_goFont_30 : decode cX4_goFont 30 = .ok (.iload_n 2, 1) := by decide +kernel
theorem dX4_goFont_31 : decode cX4_goFont 31 = .ok (.invokevirtual 82, 3) := by decide +kernel
theorem dX4_goFont_34 : decode cX4_goFont 34 = .ok (.iinc 2 (-1), 3) := by decide +kernel
theorem dX4_goFont_37 : decode cX4_goFont 37 = .ok (.goto (-30), 3) := by decide +kernel
theorem dX4_goFont_40 : decode cX4_goFont 40 = .ok (.aload_n 0, 1) := by decide +kernel
theorem dX4_goFont_41 : decode cX4_goFont 41 = .ok (.dup, 1) := by decide +kernel
theorem dX4_goFont_42 : decode cX4_goFont 42 = .ok (.getfield 66, 3) := by decide +kernel
theorem dX4_goFont_45 : decode cX4_goFont 45 = .ok (.iconst 1, 1) := by decide +kernel
theorem dX4_goFont_46 : decode cX4_goFont 46 = .ok (.isub, 1) := by decide +kernel
theorem dX4_goFont_47 : decode cX4_goFont 47 = .ok (.putfield 66, 3) := by decide +kernel
theorem dX4_goFont_50 : decode cX4_goFont 50 = .ok (.iload_n 1, 1) := by decide +kernel
theorem dX4_goFont_51 : decode cX4_goFont 51 = .ok (.istore_n 2, 1) := by decide +kernel
theorem dX4_goFont_52 : decode cX4_goFont 52 = .ok (.iload_n 2, 1) := by decide +kernel
theorem dX4_goFont_53 : decode cX4_goFont 53 = .ok (.aload_n 0, 1) := by decide +kernel
theorem dX4_goFont_54 : decode cX4_goFont 54 = .ok (.getfield 66, 3) := by decide +kernel
theorem dX4_goFont_57 : decode cX4_goFont 57 = .ok (.if_icmp .ge 76, 3) := by decide +kernel
theorem dX4_goFont_60 : decode cX4_goFont 60 = .ok (.aload_n 0, 1) := by decide +kernel
theorem dX4_goFont_61 : decode cX4_goFont 61 = .ok (.getfield 7, 3) := by decide +kernel
theorem dX4_goFont_64 : decode cX4_goFont 64 = .ok (.iload_n 2, 1) := by decide +kernel
theorem dX4_goFont_65 : decode cX4_goFont 65 = .ok (.aload_n 0, 1) := by decide +kernel
theorem dX4_goFont_66 : decode cX4_goFont 66 = .ok (.getfield 7, 3) := by decide +kernel
theorem dX4_goFont_69 : decode cX4_goFont 69 = .ok (.iload_n 2, 1) := by decide +kernel
theorem dX4_goFont_70 : decode cX4_goFont 70 = .ok (.iconst 1, 1) := by decide +kernel
theorem dX4_goFont_71 : decode cX4_goFont 71 = .ok (.iadd, 1) := by decide +kernel
theorem dX4_goFont_72 : decode cX4_goFont 72 = .ok (.iaload, 1) := by decide +kernel
theorem dX4_goFont_73 : decode cX4_goFont 73 = .ok (.iastore, 1) := by decide +kernel
theorem dX4_goFont_74 : decode cX4_goFont 74 = .ok (.aload_n 0, 1) := by decide +kernel
theorem dX4_goFont_75 : decode cX4_goFont 75 = .ok (.getfield 16, 3) := by decide +kernel
theorem dX4_goFont_78 : decode cX4_goFont 78 = .ok (.iload_n 2, 1) := by decide +kernel
theorem dX4_goFont_79 : decode cX4_goFont 79 = .ok (.aload_n 0, 1) := by decide +kernel
theorem dX4_goFont_80 : decode cX4_goFont 80 = .ok (.getfield 16, 3) := by decide +kernel
theorem dX4_goFont_83 : decode cX4_goFont 83 = .ok (.iload_n 2, 1) := by decide +kernel
theorem dX4_goFont_84 : decode cX4_goFont 84 = .ok (.iconst 1, 1) := by decide +kernel
theorem dX4_goFont_85 : decode cX4_goFont 85 = .ok (.iadd, 1) := by decide +kernel
theorem dX4_goFont_86 : decode cX4_goFont 86 = .ok (.baload, 1) := by decide +kernel
theorem dX4_goFont_87 : decode cX4_goFont 87 = .ok (.bastore, 1) := by decide +kernel
theorem dX4_goFont_88 : decode cX4_goFont 88 = .ok (.iconst 0, 1) := by decide +kernel
theorem dX4_goFont_89 : decode cX4_goFont 89 = .ok (.istore_n 3, 1) := by decide +kernel
theorem dX4_goFont_90 : decode cX4_goFont 90 = .ok (.iload_n 3, 1) := by decide +kernel
theorem dX4_goFont_91 : decode cX4_goFont 91 = .ok (.bipush 7, 2) := by decide +kernel
theorem dX4_goFont_93 : decode cX4_goFont 93 = .ok (.if_icmp .ge 34, 3) := by decide +kernel
theorem dX4_goFont_96 : decode cX4_goFont 96 = .ok (.aload_n 0, 1) := by decide +kernel
theorem dX4_goFont_97 : decode cX4_goFont 97 = .ok (.getfield 13, 3) := by decide +kernel
theorem dX4_goFont_100 : decode cX4_goFont 100 = .ok (.bipush 7, 2) := by decide +kernel
theorem dX4_goFont_102 : decode cX4_goFont 102 = .ok (.iload_n 2, 1) := by decide +kernel
theorem dX4_goFont_103 : decode cX4_goFont 103 = .ok (.imul, 1) := by decide +kernel
theorem dX4_goFont_104 : decode cX4_goFont 104 = .ok (.iload_n 3, 1) := by decide +kernel
theorem dX4_goFont_105 : decode cX4_goFont 105 = .ok (.iadd, 1) := by decide +kernel
theorem dX4_goFont_106 : decode cX4_goFont 106 = .ok (.aload_n 0, 1) := by decide +kernel
theorem dX4_goFont_107 : decode cX4_goFont 107 = .ok (.getfield 13, 3) := by decide +kernel
theorem dX4_goFont_110 : decode cX4_goFont 110 = .ok (.bipush 7, 2) := by decide +kernel
theorem dX4_goFont_112 : decode cX4_goFont 112 = .ok (.iload_n 2, 1) := by decide +kernel
theorem dX4_goFont_113 : decode cX4_goFont 113 = .ok (.imul, 1) := by decide +kernel
theorem dX4_goFont_114 : decode cX4_goFont 114 = .ok (.bipush 7, 2) := by decide +kernel
theorem dX4_goFont_116 : decode cX4_goFont 116 = .ok (.iadd, 1) := by decide +kernel
theorem dX4_goFont_117 : decode cX4_goFont 117 = .ok (.iload_n 3, 1) := by decide +kernel
theorem dX4_goFont_118 : decode cX4_goFont 118 = .ok (.iadd, 1) := by decide +kernel
theorem dX4_goFont_119 : decode cX4_goFont 119 = .ok (.iaload, 1) := by decide +kernel
theorem dX4_goFont_120 : decode cX4_goFont 120 = .ok (.iastore, 1) := by decide +kernel
theorem dX4_goFont_121 : decode cX4_goFont 121 = .ok (.iinc 3 1, 3) := by decide +kernel
theorem dX4_goFont_124 : decode cX4_goFont 124 = .ok (.goto (-34), 3) := by decide +kernel
theorem dX4_goFont_127 : decode cX4_goFont 127 = .ok (.iinc 2 1, 3) := by decide +kernel
theorem dX4_goFont_130 : decode cX4_goFont 130 = .ok (.goto (-78), 3) := by decide +kernel
theorem dX4_goFont_133 : decode cX4_goFont 133 = .ok (.return_, 1) := by decide +kernel
theorem dX4_header_0 : decode cX4_header 0 = .ok (.aload_n 0, 1) := by decide +kernel
theorem dX4_header_1 : decode cX4_header 1 = .ok (.aload_n 0, 1) := by decide +kernel
theorem dX4_header_2 : decode cX4_header 2 = .ok (.getfield 55, 3) := by decide +kernel
theorem dX4_header_5 : decode cX4_header 5 = .ok (.invokevirtual 86, 3) := by decide +kernel
theorem dX4_header_8 : decode cX4_header 8 = .ok (.istore_n 1, 1) := by decide +kernel
theorem dX4_header_9 : decode cX4_header 9 = .ok (.aload_n 0, 1) := by decide +kernel
theorem dX4_header_10 : decode cX4_header 10 = .ok (.iload_n 1, 1) := by decide +kernel
theorem dX4_header_11 : decode cX4_header 11 = .ok (.ifCond .ge 16, 3) := by decide +kernel
theorem dX4_header_14 : decode cX4_header 14 = .ok (.aload_n 0, 1) := by decide +kernel
theorem dX4_header_15 : decode cX4_header 15 = .ok (.getfield 66, 3) := by decide +kernel
theorem dX4_header_18 : decode cX4_header 18 = .ok (.bipush 32, 2) := by decide +kernel
theorem dX4_header_20 : decode cX4_header 20 = .ok (.if_icmp .ne 7, 3) := by decide +kernel
theorem dX4_header_23 : decode cX4_header 23 = .ok (.iconst 1, 1) := by decide +kernel
theorem dX4_header_24 : decode cX4_header 24 = .ok (.goto 4, 3) := by decide +kernel
theorem dX4_header_27 : decode cX4_header 27 = .ok (.iconst 0, 1) := by decide +kernel
theorem dX4_header_28 : decode cX4_header 28 = .ok (.putfield 45, 3) := by decide +kernel
theorem dX4_header_31 : decode cX4_header 31 = .ok (.aload_n 0, 1) := by decide +kernel
theorem dX4_header_32 : decode cX4_header 32 = .ok (.getfield 45, 3) := by decide +kernel
theorem dX4_header_35 : decode cX4_header 35 = .ok (.ifCond .le 5, 3) := by decide +kernel
theorem dX4_header_38 : decode cX4_header 38 = .ok (.iconst 0, 1) := by decide +kernel
theorem dX4_header_39 : decode cX4_header 39 = .ok (.ireturn, 1) := by decide +kernel
theorem dX4_header_40 : decode cX4_header 40 = .ok (.iload_n 1, 1) := by decide +kernel
theorem dX4_header_41 : decode cX4_header 41 = .ok (.ifCond .lt 8, 3) := by decide +kernel
theorem dX4_header_44 : decode cX4_header 44 = .ok (.aload_n 0, 1) := by decide +kernel
theorem dX4_header_45 : decode cX4_header 45 = .ok (.iload_n 1, 1) := by decide +kernel
theorem dX4_header_46 : decode cX4_header 46 = .ok (.invokevirtual 89, 3) := by decide +kernel
theorem dX4_header_49 : decode cX4_header 49 = .ok (.aload_n 0, 1) := by decide +kernel
theorem dX4_header_50 : decode cX4_header 50 = .ok (.getfield 7, 3) := by decide +kernel
theorem dX4_header_53 : decode cX4_header 53 = .ok (.aload_n 0, 1) := by decide +kernel
theorem dX4_header_54 : decode cX4_header 54 = .ok (.getfield 66, 3) := by decide +kernel
theorem dX4_header_57 : decode cX4_header 57 = .ok (.aload_n 0, 1) := by decide +kernel
theorem dX4_header_58 : decode cX4_header 58 = .ok (.getfield 55, 3) := by decide +kernel
theorem dX4_header_61 : decode cX4_header 61 = .ok (.iastore, 1) := by decide +kernel
theorem dX4_header_62 : decode cX4_header 62 = .ok (.aload_n 0, 1) := by decide +kernel
theorem dX4_header_63 : decode cX4_header 63 = .ok (.getfield 16, 3) := by decide +kernel
theorem dX4_header_66 : decode cX4_header 66 = .ok (.aload_n 0, 1) := by decide +kernel
theorem dX4_header_67 : decode cX4_header 67 = .ok (.getfield 66, 3) := by decide +kernel
theorem dX4_header_70 : decode cX4_header 70 = .ok (.iconst 0, 1) := by decide +kernel
theorem dX4_header_71 : decode cX4_header 71 = .ok (.bastore, 1) := by decide +kernel
theorem dX4_header_72 : decode cX4_header 72 = .ok (.iconst 0, 1) := by decide +kernel
theorem dX4_header_73 : decode cX4_header 73 = .ok (.istore_n 2, 1) := by decide +kernel
theorem dX4_header_74 : decode cX4_header 74 = .ok (.iload_n 2, 1) := by decide +kernel
theorem dX4_header_75 : decode cX4_header 75 = .ok (.bipush 7, 2) := by decide +kernel
theorem dX4_header_77 : decode cX4_header 77 = .ok (.if_icmp .ge 29, 3) := by decide +kernel
theorem dX4_header_80 : decode cX4_header 80 = .ok (.aload_n 0, 1) := by decide +kernel
theorem dX4_header_81 : decode cX4_header 81 = .ok (.getfield 13, 3) := by decide +kernel
theorem dX4_header_84 : decode cX4_header 84 = .ok (.bipush 7, 2) := by decide +kernel
theorem dX4_header_86 : decode cX4_header 86 = .ok (.aload_n 0, 1) := by decide +kernel
theorem dX4_header_87 : decode cX4_header 87 = .ok (.getfield 66, 3) := by decide +kernel
theorem dX4_header_90 : decode cX4_header 90 = .ok (.imul, 1) := by decide +kernel
theorem dX4_header_91 : decode cX4_header 91 = .ok (.iload_n 2, 1) := by decide +kernel
theorem dX4_header_92 : decode cX4_header 92 = .ok (.iadd, 1) := by decide +kernel
theorem dX4_header_93 : decode cX4_header 93 = .ok (.aload_n 0, 1) := by decide +kernel
theorem dX4_header_94 : decode cX4_header 94 = .ok (.getfield 27, 3) := by decide +kernel
theorem dX4_header_97 : decode cX4_header 97 = .ok (.iload_n 2, 1) := by decide +kernel
theorem dX4_header_98 : decode cX4_header 98 = .ok (.iaload, 1) := by decide +kernel
theorem dX4_header_99 : decode cX4_header 99 = .ok (.iastore, 1) := by decide +kernel
theorem dX4_header_100 : decode cX4_header 100 = .ok (.iinc 2 1, 3) := by decide +kernel
theorem dX4_header_103 : decode cX4_header 103 = .ok (.goto (-29), 3) := by decide +kernel
theorem dX4_header_106 : decode cX4_header 106 = .ok (.aload_n 0, 1) := by decide +kernel
theorem dX4_header_107 : decode cX4_header 107 = .ok (.dup, 1) := by decide +kernel
theorem dX4_header_108 : decode cX4_header 108 = .ok (.getfield 66, 3) := by decide +kernel
theorem dX4_header_111 : decode cX4_header 111 = .ok (.iconst 1, 1) := by decide +kernel
theorem dX4_header_112 : decode cX4_header 112 = .ok (.iadd, 1) := by decide +kernel
theorem dX4_header_113 : decode cX4_header 113 = .ok (.putfield 66, 3) := by decide +kernel
theorem dX4_header_116 : decode cX4_header 116 = .ok (.aload_n 0, 1) := by decide +kernel
theorem dX4_header_117 : decode cX4_header 117 = .ok (.iconst 0, 1) := by decide +kernel
theorem dX4_header_118 : decode cX4_header 118 = .ok (.putfield 58, 3) := by decide +kernel
theorem dX4_header_121 : decode cX4_header 121 = .ok (.aload_n 0, 1) := by decide +kernel
theorem dX4_header_122 : decode cX4_header 122 = .ok (.getfield 66, 3) := by decide +kernel
theorem dX4_header_125 : decode cX4_header 125 = .ok (.ireturn, 1) := by decide +kernel
theorem dX4_glyph_0 : decode cX4_glyph 0 = .ok (.aload_n 0, 1) := by decide +kernel
theorem dX4_glyph_1 : decode cX4_glyph 1 = .ok (.aload_n 0, 1) := by decide +kernel
theorem dX4_glyph_2 : decode cX4_glyph 2 = .ok (.aload_n 0, 1) := by decide +kernel
theorem dX4_glyph_3 : decode cX4_glyph 3 = .ok (.getfield 55, 3) := by decide +kernel
theorem dX4_glyph_6 : decode cX4_glyph 6 = .ok (.invokevirtual 86, 3) := by decide +kernel
theorem dX4_glyph_9 : decode cX4_glyph 9 = .ok (.ifCond .ge 7, 3) := by decide +kernel
theorem dX4_glyph_12 : decode cX4_glyph 12 = .ok (.iconst 1, 1) := by decide +kernel
theorem dX4_glyph_13 : decode cX4_glyph 13 = .ok (.goto 4, 3) := by decide +kernel
theorem dX4_glyph_16 : decode cX4_glyph 16 = .ok (.iconst 0, 1) := by decide +kernel
theorem dX4_glyph_17 : decode cX4_glyph 17 = .ok (.putfield 45, 3) := by decide +kernel
theorem dX4_glyph_20 : decode cX4_glyph 20 = .ok (.aload_n 0, 1) := by decide +kernel
theorem dX4_glyph_21 : decode cX4_glyph 21 = .ok (.getfield 45, 3) := by decide +kernel
theorem dX4_glyph_24 : decode cX4_glyph 24 = .ok (.ifCond .le 5, 3) := by decide +kernel
theorem dX4_glyph_27 : decode cX4_glyph 27 = .ok (.iconst 0, 1) := by decide +kernel
theorem dX4_glyph_28 : decode cX4_glyph 28 = .ok (.ireturn, 1) := by decide +kernel
theorem dX4_glyph_29 : decode cX4_glyph 29 = .ok (.iload_n 1, 1) := by decide +kernel
theorem dX4_glyph_30 : decode cX4_glyph 30 = .ok (.sipush (-16384), 3) := by decide +kernel
theorem dX4_glyph_33 : decode cX4_glyph 33 = .ok (.if_icmp .lt 65, 3) := by decide +kernel
theorem dX4_glyph_36 : decode cX4_glyph 36 = .ok (.iload_n 1, 1) := by decide +kernel
theorem dX4_glyph_37 : decode cX4_glyph 37 = .ok (.sipush 16383, 3) := by decide +kernel
theorem dX4_glyph_40 : decode cX4_glyph 40 = .ok (.if_icmp .gt 58, 3) := by decide +kernel
theorem dX4_glyph_43 : decode cX4_glyph 43 = .ok (.iload_n 2, 1) := by decide +kernel
theorem dX4_glyph_44 : decode cX4_glyph 44 = .ok (.sipush (-16384), 3) := by decide +kernel
theorem dX4_glyph_47 : decode cX4_glyph 47 = .ok (.if_icmp .lt 51, 3) := by decide +kernel
theorem dX4_glyph_50 : decode cX4_glyph 50 = .ok (.iload_n 2, 1) := by decide +kernel
theorem dX4_glyph_51 : decode cX4_glyph 51 = .ok (.sipush 16383, 3) := by decide +kernel
theorem dX4_glyph_54 : decode cX4_glyph 54 = .ok (.if_icmp .gt 44, 3) := by decide +kernel
theorem dX4_glyph_57 : decode cX4_glyph 57 = .ok (.iload_n 3, 1) := by decide +kernel
theorem dX4_glyph_58 : decode cX4_glyph 58 = .ok (.ifCond .lt 40, 3) := by decide +kernel
theorem dX4_glyph_61 : decode cX4_glyph 61 = .ok (.iload_n 3, 1) := by decide +kernel
theorem dX4_glyph_62 : decode cX4_glyph 62 = .ok (.sipush 128, 3) := by decide +kernel
theorem dX4_glyph_65 : decode cX4_glyph 65 = .ok (.if_icmp .gt 33, 3) := by decide +kernel
theorem dX4_glyph_68 : decode cX4_glyph 68 = .ok (.iload 4, 2) := by decide +kernel
theorem dX4_glyph_70 : decode cX4_glyph 70 = .ok (.ifCond .lt 28, 3) := by decide +kernel
theorem dX4_glyph_73 : decode cX4_glyph 73 = .ok (.iload 4, 2) := by decide +kernel
theorem dX4_glyph_75 : decode cX4_glyph 75 = .ok (.sipush 128, 3) := by decide +kernel
theorem dX4_glyph_78 : decode cX4_glyph 78 = .ok (.if_icmp .gt 20, 3) := by decide +kernel
theorem dX4_glyph_81 : decode cX4_glyph 81 = .ok (.iload 5, 2) := by decide +kernel
theorem dX4_glyph_83 : decode cX4_glyph 83 = .ok (.ifCond .lt 15, 3) := by decide +kernel
theorem dX4_glyph_86 : decode cX4_glyph 86 = .ok (.iload 5, 2) := by decide +kernel
theorem dX4_glyph_88 : decode cX4_glyph 88 = .ok (.sipush 32767, 3) := by decide +kernel
theorem dX4_glyph_91 : decode cX4_glyph 91 = .ok (.if_icmp .gt 7, 3) := by decide +kernel
theorem dX4_glyph_94 : decode cX4_glyph 94 = .ok (.iconst 1, 1) := by decide +kernel
theorem dX4_glyph_95 : decode cX4_glyph 95 = .ok (.goto 4, 3) := by decide +kernel
theorem dX4_glyph_98 : decode cX4_glyph 98 = .ok (.iconst 0, 1) := by decide +kernel
theorem dX4_glyph_99 : decode cX4_glyph 99 = .ok (.istore 6, 2) := by decide +kernel
theorem dX4_glyph_101 : decode cX4_glyph 101 = .ok (.aload_n 0, 1) := by decide +kernel
theorem dX4_glyph_102 : decode cX4_glyph 102 = .ok (.iload 6, 2) := by decide +kernel
theorem dX4_glyph_104 : decode cX4_glyph 104 = .ok (.ifCond .eq 7, 3) := by decide +kernel
theorem dX4_glyph_107 : decode cX4_glyph 107 = .ok (.iconst 0, 1) := by decide +kernel
theorem dX4_glyph_108 : decode cX4_glyph 108 = .ok (.goto 4, 3) := by decide +kernel
theorem dX4_glyph_111 : decode cX4_glyph 111 = .ok (.iconst 2, 1) := by decide +kernel
theorem dX4_glyph_112 : decode cX4_glyph 112 = .ok (.putfield 45, 3) := by decide +kernel
theorem dX4_glyph_115 : decode cX4_glyph 115 = .ok (.aload_n 0, 1) := by decide +kernel
theorem dX4_glyph_116 : decode cX4_glyph 116 = .ok (.getfield 45, 3) := by decide +kernel
theorem dX4_glyph_119 : decode cX4_glyph 119 = .ok (.ifCond .le 5, 3) := by decide +kernel
theorem dX4_glyph_122 : decode cX4_glyph 122 = .ok (.iconst 0, 1) := by decide +kernel
theorem dX4_glyph_123 : decode cX4_glyph 123 = .ok (.ireturn, 1) := by decide +kernel
theorem dX4_glyph_124 : decode cX4_glyph 124 = .ok (.aload_n 0, 1) := by decide +kernel
theorem dX4_glyph_125 : decode cX4_glyph 125 = .ok (.getfield 36, 3) := by decide +kernel
theorem dX4_glyph_128 : decode cX4_glyph 128 = .ok (.iconst 0, 1) := by decide +kernel
theorem dX4_glyph_129 : decode cX4_glyph 129 = .ok (.iload_n 1, 1) := by decide +kernel
theorem dX4_glyph_130 : decode cX4_glyph 130 = .ok (.iastore, 1) := by decide +kernel
theorem dX4_glyph_131 : decode cX4_glyph 131 = .ok (.aload_n 0, 1) := by decide +kernel
theorem dX4_glyph_132 : decode cX4_glyph 132 = .ok (.getfield 36, 3) := by decide +kernel
theorem dX4_glyph_135 : decode cX4_glyph 135 = .ok (.iconst 1, 1) := by decide +kernel
theorem dX4_glyph_136 : decode cX4_glyph 136 = .ok (.iload_n 2, 1) := by decide +kernel
theorem dX4_glyph_137 : decode cX4_glyph 137 = .ok (.iastore, 1) := by decide +kernel
theorem dX4_glyph_138 : decode cX4_glyph 138 = .ok (.aload_n 0, 1) := by decide +kernel
theorem dX4_glyph_139 : decode cX4_glyph 139 = .ok (.getfield 36, 3) := by decide +kernel
theorem dX4_glyph_142 : decode cX4_glyph 142 = .ok (.iconst 2, 1) := by decide +kernel
theorem dX4_glyph_143 : decode cX4_glyph 143 = .ok (.iload_n 3, 1) := by decide +kernel
theorem dX4_glyph_144 : decode cX4_glyph 144 = .ok (.iastore, 1) := by decide +kernel
theorem dX4_glyph_145 : decode cX4_glyph 145 = .ok (.aload_n 0, 1) := by decide +kernel
theorem dX4_glyph_146 : decode cX4_glyph 146 = .ok (.getfield 36, 3) := by decide +kernel
theorem dX4_glyph_149 : decode cX4_glyph 149 = .ok (.iconst 3, 1) := by decide +kernel
theorem dX4_glyph_150 : decode cX4_glyph 150 = .ok (.iload 4, 2) := by decide +kernel
theorem dX4_glyph_152 : decode cX4_glyph 152 = .ok (.iastore, 1) := by decide +kernel
theorem dX4_glyph_153 : decode cX4_glyph 153 = .ok (.aload_n 0, 1) := by decide +kernel
theorem dX4_glyph_154 : decode cX4_glyph 154 = .ok (.getfield 36, 3) := by decide +kernel
theorem dX4_glyph_157 : decode cX4_glyph 157 = .ok (.iconst 4, 1) := by decide +kernel
theorem dX4_glyph_158 : decode cX4_glyph 158 = .ok (.iload 5, 2) := by decide +kernel
theorem dX4_glyph_160 : decode cX4_glyph 160 = .ok (.iastore, 1) := by decide +kernel
theorem dX4_glyph_161 : decode cX4_glyph 161 = .ok (.aload_n 0, 1) := by decide +kernel
theorem dX4_glyph_162 : decode cX4_glyph 162 = .ok (.iload 4, 2) := by decide +kernel
theorem dX4_glyph_164 : decode cX4_glyph 164 = .ok (.iload_n 3, 1) := by decide +kernel
theorem dX4_glyph_165 : decode cX4_glyph 165 = .ok (.bipush 7, 2) := by decide +kernel
theorem dX4_glyph_167 : decode cX4_glyph 167 = .ok (.iadd, 1) := by decide +kernel
theorem dX4_glyph_168 : decode cX4_glyph 168 = .ok (.bipush 8, 2) := by decide +kernel
theorem dX4_glyph_170 : decode cX4_glyph 170 = .ok (.idiv, 1) := by decide +kernel
theorem dX4_glyph_171 : decode cX4_glyph 171 = .ok (.imul, 1) := by decide +kernel
theorem dX4_glyph_172 : decode cX4_glyph 172 = .ok (.putfield 92, 3) := by decide +kernel
theorem dX4_glyph_175 : decode cX4_glyph 175 = .ok (.aload_n 0, 1) := by decide +kernel
theorem dX4_glyph_176 : decode cX4_glyph 176 = .ok (.iconst 0, 1) := by decide +kernel
theorem dX4_glyph_177 : decode cX4_glyph 177 = .ok (.putfield 95, 3) := by decide +kernel
theorem dX4_glyph_180 : decode cX4_glyph 180 = .ok (.aload_n 0, 1) := by decide +kernel
theorem dX4_glyph_181 : decode cX4_glyph 181 = .ok (.iconst 1, 1) := by decide +kernel
theorem dX4_glyph_182 : decode cX4_glyph 182 = .ok (.putfield 58, 3) := by decide +kernel
theorem dX4_glyph_185 : decode cX4_glyph 185 = .ok (.aload_n 0, 1) := by decide +kernel
theorem dX4_glyph_186 : decode cX4_glyph 186 = .ok (.getfield 92, 3) := by decide +kernel
theorem dX4_glyph_189 : decode cX4_glyph 189 = .ok (.ireturn, 1) := by decide +kernel
theorem dX4_bytes_0 : decode cX4_bytes 0 = .ok (.aload_n 0, 1) := by decide +kernel
theorem dX4_bytes_1 : decode cX4_bytes 1 = .ok (.iconst 0, 1) := by decide +kernel
theorem dX4_bytes_2 : decode cX4_bytes 2 = .ok (.putfield 45, 3) := by decide +kernel
theorem dX4_bytes_5 : decode cX4_bytes 5 = .ok (.iload_n 3, 1) := by decide +kernel
theorem dX4_bytes_6 : decode cX4_bytes 6 = .ok (.iconst 1, 1) := by decide +kernel
theorem dX4_bytes_7 : decode cX4_bytes 7 = .ok (.if_icmp .lt 16, 3) := by decide +kernel
theorem dX4_bytes_10 : decode cX4_bytes 10 = .ok (.iload_n 3, 1) := by decide +kernel
theorem dX4_bytes_11 : decode cX4_bytes 11 = .ok (.bipush 8, 2) := by decide +kernel
theorem dX4_bytes_13 : decode cX4_bytes 13 = .ok (.if_icmp .gt 10, 3) := by decide +kernel
theorem dX4_bytes_16 : decode cX4_bytes 16 = .ok (.aload_n 0, 1) := by decide +kernel
theorem dX4_bytes_17 : decode cX4_bytes 17 = .ok (.getfield 58, 3) := by decide +kernel
theorem dX4_bytes_20 : decode cX4_bytes 20 = .ok (.ifCond .ne 5, 3) := by decide +kernel
theorem dX4_bytes_23 : decode cX4_bytes 23 = .ok (.iconst 0, 1) := by decide +kernel
theorem dX4_bytes_24 : decode cX4_bytes 24 = .ok (.ireturn, 1) := by decide +kernel
theorem dX4_bytes_25 : decode cX4_bytes 25 = .ok (.iload_n 3, 1) := by decide +kernel
theorem dX4_bytes_26 : decode cX4_bytes 26 = .ok (.iconst 1, 1) := by decide +kernel
theorem dX4_bytes_27 : decode cX4_bytes 27 = .ok (.isub, 1) := by decide +kernel
theorem dX4_bytes_28 : decode cX4_bytes 28 = .ok (.istore 4, 2) := by decide +kernel
theorem dX4_bytes_30 : decode cX4_bytes 30 = .ok (.iload 4, 2) := by decide +kernel
theorem dX4_bytes_32 : decode cX4_bytes 32 = .ok (.ifCond .lt 52, 3) := by decide +kernel
theorem dX4_bytes_35 : decode cX4_bytes 35 = .ok (.aload_n 0, 1) := by decide +kernel
theorem dX4_bytes_36 : decode cX4_bytes 36 = .ok (.getfield 95, 3) := by decide +kernel
theorem dX4_bytes_39 : decode cX4_bytes 39 = .ok (.aload_n 0, 1) := by decide +kernel
theorem dX4_bytes_40 : decode cX4_bytes 40 = .ok (.getfield 92, 3) := by decide +kernel
theorem dX4_bytes_43 : decode cX4_bytes 43 = .ok (.if_icmp .ge 35, 3) := by decide +kernel
theorem dX4_bytes_46 : decode cX4_bytes 46 = .ok (.aload_n 0, 1) := by decide +kernel
theorem dX4_bytes_47 : decode cX4_bytes 47 = .ok (.getfield 39, 3) := by decide +kernel
theorem dX4_bytes_50 : decode cX4_bytes 50 = .ok (.aload_n 0, 1) := by decide +kernel
theorem dX4_bytes_51 : decode cX4_bytes 51 = .ok (.getfield 95, 3) := by decide +kernel
theorem dX4_bytes_54 : decode cX4_bytes 54 = .ok (.lload_n 1, 1) := by decide +kernel
theorem dX4_bytes_55 : decode cX4_bytes 55 = .ok (.bipush 8, 2) := by decide +kernel
theorem dX4_bytes_57 : decode cX4_bytes 57 = .ok (.iload 4, 2) := by decide +kernel
theorem dX4_bytes_59 : decode cX4_bytes 59 = .ok (.imul, 1) := by decide +kernel
theorem dX4_bytes_60 : decode cX4_bytes 60 = .ok (.lshr, 1) := by decide +kernel
theorem dX4_bytes_61 : decode cX4_bytes 61 = .ok (.ldc2_w 98, 3) := by decide +kernel
theorem dX4_bytes_64 : decode cX4_bytes 64 = .ok (.land, 1) := by decide +kernel
theorem dX4_bytes_65 : decode cX4_bytes 65 = .ok (.l2i, 1) := by decide +kernel
theorem dX4_bytes_66 : decode cX4_bytes 66 = .ok (.i2b, 1) := by decide +kernel
theorem dX4_bytes_67 : decode cX4_bytes 67 = .ok (.bastore, 1) := by decide +kernel
theorem dX4_bytes_68 : decode cX4_bytes 68 = .ok (.aload_n 0, 1) := by decide +kernel
theorem dX4_bytes_69 : decode cX4_bytes 69 = .ok (.dup, 1) := by decide +kernel
theorem dX4_bytes_70 : decode cX4_bytes 70 = .ok (.getfield 95, 3) := by decide +kernel
theorem dX4_bytes_73 : decode cX4_bytes 73 = .ok (.iconst 1, 1) := by decide +kernel
theorem dX4_bytes_74 : decode cX4_bytes 74 = .ok (.iadd, 1) := by decide +kernel
theorem dX4_bytes_75 : decode cX4_bytes 75 = .ok (.putfield 95, 3) := by decide +kernel
theorem dX4_bytes_78 : decode cX4_bytes 78 = .ok (.iinc 4 (-1), 3) := by decide +kernel
theorem dX4_bytes_81 : decode cX4_bytes 81 = .ok (.goto (-51), 3) := by decide +kernel
theorem dX4_bytes_84 : decode cX4_bytes 84 = .ok (.iconst 1, 1) := by decide +kernel
theorem dX4_bytes_85 : decode cX4_bytes 85 = .ok (.ireturn, 1) := by decide +kernel
theorem dX4_byteOf_0 : decode cX4_byteOf 0 = .ok (.aload_n 0, 1) := by decide +kernel
theorem dX4_byteOf_1 : decode cX4_byteOf 1 = .ok (.getfield 36, 3) := by decide +kernel
theorem dX4_byteOf_4 : decode cX4_byteOf 4 = .ok (.iconst 2, 1) := by decide +kernel
theorem dX4_byteOf_5 : decode cX4_byteOf 5 = .ok (.iaload, 1) := by decide +kernel
theorem dX4_byteOf_6 : decode cX4_byteOf 6 = .ok (.bipush 7, 2) := by decide +kernel
theorem dX4_byteOf_8 : decode cX4_byteOf 8 = .ok (.iadd, 1) := by decide +kernel
theorem dX4_byteOf_9 : decode cX4_byteOf 9 = .ok (.bipush 8, 2) := by decide +kernel
theorem dX4_byteOf_11 : decode cX4_byteOf 11 = .ok (.idiv, 1) := by decide +kernel
theorem dX4_byteOf_12 : decode cX4_byteOf 12 = .ok (.istore_n 2, 1) := by decide +kernel
theorem dX4_byteOf_13 : decode cX4_byteOf 13 = .ok (.aload_n 0, 1) := by decide +kernel
theorem dX4_byteOf_14 : decode cX4_byteOf 14 = .ok (.getfield 36, 3) := by decide +kernel
theorem dX4_byteOf_17 : decode cX4_byteOf 17 = .ok (.iconst 2, 1) := by decide +kernel
theorem dX4_byteOf_18 : decode cX4_byteOf 18 = .ok (.iaload, 1) := by decide +kernel
theorem dX4_byteOf_19 : decode cX4_byteOf 19 = .ok (.bipush 8, 2) := by decide +kernel
theorem dX4_byteOf_21 : decode cX4_byteOf 21 = .ok (.iload_n 1, 1) := by decide +kernel
theorem dX4_byteOf_22 : decode cX4_byteOf 22 = .ok (.iload_n 2, 1) := by decide +kernel
theorem dX4_byteOf_23 : decode cX4_byteOf 23 = .ok (.ifCond .ne 7, 3) := by decide +kernel
theorem dX4_byteOf_26 : decode cX4_byteOf 26 = .ok (.iconst 1, 1) := by decide +kernel
theorem dX4_byteOf_27 : decode cX4_byteOf 27 = .ok (.goto 4, 3) := by decide +kernel
theorem dX4_byteOf_30 : decode cX4_byteOf 30 = .ok (.iload_n 2, 1) := by decide +kernel
theorem dX4_byteOf_31 : decode cX4_byteOf 31 = .ok (.irem, 1) := by decide +kernel
theorem dX4_byteOf_32 : decode cX4_byteOf 32 = .ok (.imul, 1) := by decide +kernel
theorem dX4_byteOf_33 : decode cX4_byteOf 33 = .ok (.isub, 1) := by decide +kernel
theorem dX4_byteOf_34 : decode cX4_byteOf 34 = .ok (.istore_n 3, 1) := by decide +kernel
theorem dX4_byteOf_35 : decode cX4_byteOf 35 = .ok (.iload_n 3, 1) := by decide +kernel
theorem dX4_byteOf_36 : decode cX4_byteOf 36 = .ok (.bipush 8, 2) := by decide +kernel
theorem dX4_byteOf_38 : decode cX4_byteOf 38 = .ok (.if_icmp .lt 9, 3) := by decide +kernel
theorem dX4_byteOf_41 : decode cX4_byteOf 41 = .ok (.sipush 255, 3) := by decide +kernel
theorem dX4_byteOf_44 : decode cX4_byteOf 44 = .ok (.goto 12, 3) := by decide +kernel
theorem dX4_byteOf_47 : decode cX4_byteOf 47 = .ok (.sipush 255, 3) := by decide +kernel
theorem dX4_byteOf_50 : decode cX4_byteOf 50 = .ok (.sipush 255, 3) := by decide +kernel
theorem dX4_byteOf_53 : decode cX4_byteOf 53 = .ok (.iload_n 3, 1) := by decide +kernel
theorem dX4_byteOf_54 : decode cX4_byteOf 54 = .ok (.ishr, 1) := by decide +kernel
theorem dX4_byteOf_55 : decode cX4_byteOf 55 = .ok (.isub, 1) := by decide +kernel
theorem dX4_byteOf_56 : decode cX4_byteOf 56 = .ok (.istore 4, 2) := by decide +kernel
theorem dX4_byteOf_58 : decode cX4_byteOf 58 = .ok (.iload_n 1, 1) := by decide +kernel
theorem dX4_byteOf_59 : decode cX4_byteOf 59 = .ok (.aload_n 0, 1) := by decide +kernel
theorem dX4_byteOf_60 : decode cX4_byteOf 60 = .ok (.getfield 95, 3) := by decide +kernel
theorem dX4_byteOf_63 : decode cX4_byteOf 63 = .ok (.if_icmp .ge 15, 3) := by decide +kernel
theorem dX4_byteOf_66 : decode cX4_byteOf 66 = .ok (.aload_n 0, 1) := by decide +kernel
theorem dX4_byteOf_67 : decode cX4_byteOf 67 = .ok (.getfield 39, 3) := by decide +kernel
theorem dX4_byteOf_70 : decode cX4_byteOf 70 = .ok (.iload_n 1, 1) := by decide +kernel
theorem dX4_byteOf_71 : decode cX4_byteOf 71 = .ok (.baload, 1) := by decide +kernel
theorem dX4_byteOf_72 : decode cX4_byteOf 72 = .ok (.iload 4, 2) := by decide +kernel
theorem dX4_byteOf_74 : decode cX4_byteOf 74 = .ok (.iand, 1) := by decide +kernel
theorem dX4_byteOf_75 : decode cX4_byteOf 75 = .ok (.goto 4, 3) := by decide +kernel
theorem dX4_byteOf_78 : decode cX4_byteOf 78 = .ok (.iconst 0, 1) := by decide +kernel
theorem dX4_byteOf_79 : decode cX4_byteOf 79 = .ok (.ireturn, 1) := by decide +kernel
theorem dX4_load_0 : decode cX4_load 0 = .ok (.aload_n 0, 1) := by decide +kernel
theorem dX4_load_1 : decode cX4_load 1 = .ok (.aload_n 0, 1) := by decide +kernel
theorem dX4_load_2 : decode cX4_load 2 = .ok (.getfield 58, 3) := by decide +kernel
theorem dX4_load_5 : decode cX4_load 5 = .ok (.ifCond .eq 7, 3) := by decide +kernel
theorem dX4_load_8 : decode cX4_load 8 = .ok (.iconst 0, 1) := by decide +kernel
theorem dX4_load_9 : decode cX4_load 9 = .ok (.goto 4, 3) := by decide +kernel
theorem dX4_load_12 : decode cX4_load 12 = .ok (.iconst 1, 1) := by decide +kernel
theorem dX4_load_13 : decode cX4_load 13 = .ok (.putfield 45, 3) := by decide +kernel
theorem dX4_load_16 : decode cX4_load 16 = .ok (.aload_n 0, 1) := by decide +kernel
theorem dX4_load_17 : decode cX4_load 17 = .ok (.getfield 45, 3) := by decide +kernel
theorem dX4_load_20 : decode cX4_load 20 = .ok (.ifCond .le 5, 3) := by decide +kernel
theorem dX4_load_23 : decode cX4_load 23 = .ok (.iconst 0, 1) := by decide +kernel
theorem dX4_load_24 : decode cX4_load 24 = .ok (.ireturn, 1) := by decide +kernel
theorem dX4_load_25 : decode cX4_load 25 = .ok (.aload_n 0, 1) := by decide +kernel
theorem dX4_load_26 : decode cX4_load 26 = .ok (.iconst 0, 1) := by decide +kernel
theorem dX4_load_27 : decode cX4_load 27 = .ok (.putfield 58, 3) := by decide +kernel
theorem dX4_load_30 : decode cX4_load 30 = .ok (.aload_n 0, 1) := by decide +kernel
theorem dX4_load_31 : decode cX4_load 31 = .ok (.aload_n 0, 1) := by decide +kernel
theorem dX4_load_32 : decode cX4_load 32 = .ok (.getfield 55, 3) := by decide +kernel
theorem dX4_load_35 : decode cX4_load 35 = .ok (.aload_n 0, 1) := by decide +kernel
theorem dX4_load_36 : decode cX4_load 36 = .ok (.getfield 52, 3) := by decide +kernel
theorem dX4_load_39 : decode cX4_load 39 = .ok (.invokevirtual 100, 3) := by decide +kernel
theorem dX4_load_42 : decode cX4_load 42 = .ok (.istore_n 1, 1) := by decide +kernel
theorem dX4_load_43 : decode cX4_load 43 = .ok (.aload_n 0, 1) := by decide +kernel
theorem dX4_load_44 : decode cX4_load 44 = .ok (.getfield 73, 3) := by decide +kernel
theorem dX4_load_47 : decode cX4_load 47 = .ok (.iload_n 1, 1) := by decide +kernel
theorem dX4_load_48 : decode cX4_load 48 = .ok (.ifCond .ge 7, 3) := by decide +kernel
theorem dX4_load_51 : decode cX4_load 51 = .ok (.iconst 1, 1) := by decide +kernel
theorem dX4_load_52 : decode cX4_load 52 = .ok (.goto 4, 3) := by decide +kernel
theorem dX4_load_55 : decode cX4_load 55 = .ok (.iconst 0, 1) := by decide +kernel
theorem dX4_load_56 : decode cX4_load 56 = .ok (.iadd, 1) := by decide +kernel
theorem dX4_load_57 : decode cX4_load 57 = .ok (.istore_n 2, 1) := by decide +kernel
theorem dX4_load_58 : decode cX4_load 58 = .ok (.aload_n 0, 1) := by decide +kernel
theorem dX4_load_59 : decode cX4_load 59 = .ok (.getfield 79, 3) := by decide +kernel
theorem dX4_load_62 : decode cX4_load 62 = .ok (.aload_n 0, 1) := by decide +kernel
theorem dX4_load_63 : decode cX4_load 63 = .ok (.getfield 92, 3) := by decide +kernel
theorem dX4_load_66 : decode cX4_load 66 = .ok (.iadd, 1) := by decide +kernel
theorem dX4_load_67 : decode cX4_load 67 = .ok (.iload_n 1, 1) := by decide +kernel
theorem dX4_load_68 : decode cX4_load 68 = .ok (.ifCond .ge 7, 3) := by decide +kernel
theorem dX4_load_71 : decode cX4_load 71 = .ok (.iconst 0, 1) := by decide +kernel
theorem dX4_load_72 : decode cX4_load 72 = .ok (.goto 8, 3) := by decide +kernel
theorem dX4_load_75 : decode cX4_load 75 = .ok (.aload_n 0, 1) := by decide +kernel
theorem dX4_load_76 : decode cX4_load 76 = .ok (.iload_n 1, 1) := by decide +kernel
theorem dX4_load_77 : decode cX4_load 77 = .ok (.invokevirtual 69, 3) := by decide +kernel
theorem dX4_load_80 : decode cX4_load 80 = .ok (.isub, 1) := by decide +kernel
theorem dX4_load_81 : decode cX4_load 81 = .ok (.istore_n 3, 1) := by decide +kernel
theorem dX4_load_82 : decode cX4_load 82 = .ok (.aload_n 0, 1) := by decide +kernel
theorem dX4_load_83 : decode cX4_load 83 = .ok (.iload_n 2, 1) := by decide +kernel
theorem dX4_load_84 : decode cX4_load 84 = .ok (.sipush 256, 3) := by decide +kernel
theorem dX4_load_87 : decode cX4_load 87 = .ok (.if_icmp .gt 10, 3) := by decide +kernel
theorem dX4_load_90 : decode cX4_load 90 = .ok (.iload_n 3, 1) := by decide +kernel
theorem dX4_load_91 : decode cX4_load 91 = .ok (.sipush 16384, 3) := by decide +kernel
theorem dX4_load_94 : decode cX4_load 94 = .ok (.if_icmp .le 7, 3) := by decide +kernel
theorem dX4_load_97 : decode cX4_load 97 = .ok (.iconst 2, 1) := by decide +kernel
theorem dX4_load_98 : decode cX4_load 98 = .ok (.goto 4, 3) := by decide +kernel
theorem dX4_load_101 : decode cX4_load 101 = .ok (.iconst 0, 1) := by decide +kernel
theorem dX4_load_102 : decode cX4_load 102 = .ok (.putfield 45, 3) := by decide +kernel
theorem dX4_load_105 : decode cX4_load 105 = .ok (.aload_n 0, 1) := by decide +kernel
theorem dX4_load_106 : decode cX4_load 106 = .ok (.getfield 45, 3) := by decide +kernel
theorem dX4_load_109 : decode cX4_load 109 = .ok (.ifCond .le 5, 3) := by decide +kernel
theorem dX4_load_112 : decode cX4_load 112 = .ok (.iconst 0, 1) := by decide +kernel
theorem dX4_load_113 : decode cX4_load 113 = .ok (.ireturn, 1) := by decide +kernel
theorem dX4_load_114 : decode cX4_load 114 = .ok (.iload_n 1, 1) := by decide +kernel
theorem dX4_load_115 : decode cX4_load 115 = .ok (.ifCond .lt 8, 3) := by decide +kernel
theorem dX4_load_118 : decode cX4_load 118 = .ok (.aload_n 0, 1) := by decide +kernel
theorem dX4_load_119 : decode cX4_load 119 = .ok (.iload_n 1, 1) := by decide +kernel
theorem dX4_load_120 : decode cX4_load 120 = .ok (.invokevirtual 82, 3) := by decide +kernel
theorem dX4_load_123 : decode cX4_load 123 = .ok (.bipush 7, 2) := by decide +kernel
theorem dX4_load_125 : decode cX4_load 125 = .ok (.aload_n 0, 1) := by decide +kernel
theorem dX4_load_126 : decode cX4_load 126 = .ok (.getfield 73, 3) := by decide +kernel
theorem dX4_load_129 : decode cX4_load 129 = .ok (.imul, 1) := by decide +kernel
theorem dX4_load_130 : decode cX4_load 130 = .ok (.istore 4, 2) := by decide +kernel
theorem dX4_load_132 : decode cX4_load 132 = .ok (.aload_n 0, 1) := by decide +kernel
theorem dX4_load_133 : decode cX4_load 133 = .ok (.getfield 20, 3) := by decide +kernel
theorem dX4_load_136 : decode cX4_load 136 = .ok (.iload 4, 2) := by decide +kernel
theorem dX4_load_138 : decode cX4_load 138 = .ok (.aload_n 0, 1) := by decide +kernel
theorem dX4_load_139 : decode cX4_load 139 = .ok (.getfield 55, 3) := by decide +kernel
theorem dX4_load_142 : decode cX4_load 142 = .ok (.iastore, 1) := by decide +kernel
theorem dX4_load_143 : decode cX4_load 143 = .ok (.aload_n 0, 1) := by decide +kernel
theorem dX4_load_144 : decode cX4_load 144 = .ok (.getfield 20, 3) := by decide +kernel
theorem dX4_load_147 : decode cX4_load 147 = .ok (.iload 4, 2) := by decide +kernel
theorem dX4_load_149 : decode cX4_load 149 = .ok (.iconst 1, 1) := by decide +kernel
theorem dX4_load_150 : decode cX4_load 150 = .ok (.iadd, 1) := by decide +kernel
theorem dX4_load_151 : decode cX4_load 151 = .ok (.aload_n 0, 1) := by decide +kernel
theorem dX4_load_152 : decode cX4_load 152 = .ok (.getfield 52, 3) := by decide +kernel
theorem dX4_load_155 : decode cX4_load 155 = .ok (.iastore, 1) := by decide +kernel
theorem dX4_load_156 : decode cX4_load 156 = .ok (.iconst 0, 1) := by decide +kernel
theorem dX4_load_157 : decode cX4_load 157 = .ok (.istore 5, 2) := by decide +kernel
theorem dX4_load_159 : decode cX4_load 159 = .ok (.iload 5, 2) := by decide +kernel
theorem dX4_load_161 : decode cX4_load 161 = .ok (.iconst 5, 1) := by decide +kernel
theorem dX4_load_162 : decode cX4_load 162 = .ok (.if_icmp .ge 28, 3) := by decide +kernel
theorem dX4_load_165 : decode cX4_load 165 = .ok (.aload_n 0, 1) := by decide +kernel
theorem dX4_load_166 : decode cX4_load 166 = .ok (.getfield 20, 3) := by decide +kernel
theorem dX4_load_169 : decode cX4_load 169 = .ok (.iload 4, 2) := by decide +kernel
theorem dX4_load_171 : decode cX4_load 171 = .ok (.iconst 2, 1) := by decide +kernel
theorem dX4_load_172 : decode cX4_load 172 = .ok (.iadd, 1) := by decide +kernel
theorem dX4_load_173 : decode cX4_load 173 = .ok (.iload 5, 2) := by decide +kernel
theorem dX4_load_175 : decode cX4_load 175 = .ok (.iadd, 1) := by decide +kernel
theorem dX4_load_176 : decode cX4_load 176 = .ok (.aload_n 0, 1) := by decide +kernel
theorem dX4_load_177 : decode cX4_load 177 = .ok (.getfield 36, 3) := by decide +kernel
theorem dX4_load_180 : decode cX4_load 180 = .ok (.iload 5, 2) := by decide +kernel
theorem dX4_load_182 : decode cX4_load 182 = .ok (.iaload, 1) := by decide +kernel
theorem dX4_load_183 : decode cX4_load 183 = .ok (.iastore, 1) := by decide +kernel
theorem dX4_load_184 : decode cX4_load 184 = .ok (.iinc 5 1, 3) := by decide +kernel
theorem dX4_load_187 : decode cX4_load 187 = .ok (.goto (-28), 3) := by decide +kernel
theorem dX4_load_190 : decode cX4_load 190 = .ok (.iconst 0, 1) := by decide +kernel
theorem dX4_load_191 : decode cX4_load 191 = .ok (.istore 5, 2) := by decide +kernel
theorem dX4_load_193 : decode cX4_load 193 = .ok (.iload 5, 2) := by decide +kernel
theorem dX4_load_195 : decode cX4_load 195 = .ok (.aload_n 0, 1) := by decide +kernel
theorem dX4_load_196 : decode cX4_load 196 = .ok (.getfield 92, 3) := by decide +kernel
theorem dX4_load_199 : decode cX4_load 199 = .ok (.if_icmp .ge 28, 3) := by decide +kernel
theorem dX4_load_202 : decode cX4_load 202 = .ok (.aload_n 0, 1) := by decide +kernel
theorem dX4_load_203 : decode cX4_load 203 = .ok (.getfield 23, 3) := by decide +kernel
theorem dX4_load_206 : decode cX4_load 206 = .ok (.aload_n 0, 1) := by decide +kernel
theorem dX4_load_207 : decode cX4_load 207 = .ok (.getfield 79, 3) := by decide +kernel
theorem dX4_load_210 : decode cX4_load 210 = .ok (.iload 5, 2) := by decide +kernel
theorem dX4_load_212 : decode cX4_load 212 = .ok (.iadd, 1) := by decide +kernel
theorem dX4_load_213 : decode cX4_load 213 = .ok (.aload_n 0, 1) := by decide +kernel
theorem dX4_load_214 : decode cX4_load 214 = .ok (.iload 5, 2) := by decide +kernel
theorem dX4_load_216 : decode cX4_load 216 = .ok (.invokevirtual 104, 3) := by decide +kernel
theorem dX4_load_219 : decode cX4_load 219 = .ok (.i2b, 1) := by decide +kernel
theorem dX4_load_220 : decode cX4_load 220 = .ok (.bastore, 1) := by decide +kernel
theorem dX4_load_221 : decode cX4_load 221 = .ok (.iinc 5 1, 3) := by decide +kernel
theorem dX4_load_224 : decode cX4_load 224 = .ok (.goto (-31), 3) := by decide +kernel
theorem dX4_load_227 : decode cX4_load 227 = .ok (.aload_n 0, 1) := by decide +kernel
theorem dX4_load_228 : decode cX4_load 228 = .ok (.dup, 1) := by decide +kernel
theorem dX4_load_229 : decode cX4_load 229 = .ok (.getfield 73, 3) := by decide +kernel
theorem dX4_load_232 : decode cX4_load 232 = .ok (.iconst 1, 1) := by decide +kernel
theorem dX4_load_233 : decode cX4_load 233 = .ok (.iadd, 1) := by decide +kernel
theorem dX4_load_234 : decode cX4_load 234 = .ok (.putfield 73, 3) := by decide +kernel
theorem dX4_load_237 : decode cX4_load 237 = .ok (.aload_n 0, 1) := by decide +kernel
theorem dX4_load_238 : decode cX4_load 238 = .ok (.dup, 1) := by decide +kernel
theorem dX4_load_239 : decode cX4_load 239 = .ok (.getfield 79, 3) := by decide +kernel
theorem dX4_load_242 : decode cX4_load 242 = .ok (.aload_n 0, 1) := by decide +kernel
theorem dX4_load_243 : decode cX4_load 243 = .ok (.getfield 92, 3) := by decide +kernel
theorem dX4_load_246 : decode cX4_load 246 = .ok (.iadd, 1) := by decide +kernel
theorem dX4_load_247 : decode cX4_load 247 = .ok (.putfield 79, 3) := by decide +kernel
theorem dX4_load_250 : decode cX4_load 250 = .ok (.aload_n 0, 1) := by decide +kernel
theorem dX4_load_251 : decode cX4_load 251 = .ok (.aload_n 0, 1) := by decide +kernel
theorem dX4_load_252 : decode cX4_load 252 = .ok (.getfield 55, 3) := by decide +kernel
theorem dX4_load_255 : decode cX4_load 255 = .ok (.invokevirtual 107, 3) := by decide +kernel
theorem dX4_load_258 : decode cX4_load 258 = .ok (.ireturn, 1) := by decide +kernel
theorem dX4_glyphsOf_0 : decode cX4_glyphsOf 0 = .ok (.iconst 0, 1) := by decide +kernel
theorem dX4_glyphsOf_1 : decode cX4_glyphsOf 1 = .ok (.istore_n 2, 1) := by decide +kernel
theorem dX4_glyphsOf_2 : decode cX4_glyphsOf 2 = .ok (.iconst 0, 1) := by decide +kernel
theorem dX4_glyphsOf_3 : decode cX4_glyphsOf 3 = .ok (.istore_n 3, 1) := by decide +kernel
theorem dX4_glyphsOf_4 : decode cX4_glyphsOf 4 = .ok (.iload_n 3, 1) := by decide +kernel
theorem dX4_glyphsOf_5 : decode cX4_glyphsOf 5 = .ok (.aload_n 0, 1) := by decide +kernel
theorem dX4_glyphsOf_6 : decode cX4_glyphsOf 6 = .ok (.getfield 73, 3) := by decide +kernel
theorem dX4_glyphsOf_9 : decode cX4_glyphsOf 9 = .ok (.if_icmp .ge 30, 3) := by decide +kernel
theorem dX4_glyphsOf_12 : decode cX4_glyphsOf 12 = .ok (.iload_n 2, 1) := by decide +kernel
theorem dX4_glyphsOf_13 : decode cX4_glyphsOf 13 = .ok (.aload_n 0, 1) := by decide +kernel
theorem dX4_glyphsOf_14 : decode cX4_glyphsOf 14 = .ok (.getfield 20, 3) := by decide +kernel
theorem dX4_glyphsOf_17 : decode cX4_glyphsOf 17 = .ok (.bipush 7, 2) := by decide +kernel
theorem dX4_glyphsOf_19 : decode cX4_glyphsOf 19 = .ok (.iload_n 3, 1) := by decide +kernel
theorem dX4_glyphsOf_20 : decode cX4_glyphsOf 20 = .ok (.imul, 1) := by decide +kernel
theorem dX4_glyphsOf_21 : decode cX4_glyphsOf 21 = .ok (.iaload, 1) := by decide +kernel
theorem dX4_glyphsOf_22 : decode cX4_glyphsOf 22 = .ok (.iload_n 1, 1) := by decide +kernel
theorem dX4_glyphsOf_23 : decode cX4_glyphsOf 23 = .ok (.if_icmp .ne 7, 3) := by decide +kernel
theorem dX4_glyphsOf_26 : decode cX4_glyphsOf 26 = .ok (.iconst 1, 1) := by decide +kernel
theorem dX4_glyphsOf_27 : decode cX4_glyphsOf 27 = .ok (.goto 4, 3) := by decide +kernel
theorem dX4_glyphsOf_30 : decode cX4_glyphsOf 30 = .ok (.iconst 0, 1) := by decide +kernel
theorem dX4_glyphsOf_31 : decode cX4_glyphsOf 31 = .ok (.iadd, 1) := by decide +kernel
theorem dX4_glyphsOf_32 : decode cX4_glyphsOf 32 = .ok (.istore_n 2, 1) := by decide +kernel
theorem dX4_glyphsOf_33 : decode cX4_glyphsOf 33 = .ok (.iinc 3 1, 3) := by decide +kernel
theorem dX4_glyphsOf_36 : decode cX4_glyphsOf 36 = .ok (.goto (-32), 3) := by decide +kernel
theorem dX4_glyphsOf_39 : decode cX4_glyphsOf 39 = .ok (.iload_n 2, 1) := by decide +kernel
theorem dX4_glyphsOf_40 : decode cX4_glyphsOf 40 = .ok (.ireturn, 1) := by decide +kernel
theorem dX4_permanent_0 : decode cX4_permanent 0 = .ok (.aload_n 0, 1) := by decide +kernel
theorem dX4_permanent_1 : decode cX4_permanent 1 = .ok (.iconst 0, 1) := by decide +kernel
theorem dX4_permanent_2 : decode cX4_permanent 2 = .ok (.putfield 45, 3) := by decide +kernel
theorem dX4_permanent_5 : decode cX4_permanent 5 = .ok (.aload_n 0, 1) := by decide +kernel
theorem dX4_permanent_6 : decode cX4_permanent 6 = .ok (.aload_n 0, 1) := by decide +kernel
theorem dX4_permanent_7 : decode cX4_permanent 7 = .ok (.getfield 55, 3) := by decide +kernel
theorem dX4_permanent_10 : decode cX4_permanent 10 = .ok (.invokevirtual 86, 3) := by decide +kernel
theorem dX4_permanent_13 : decode cX4_permanent 13 = .ok (.istore_n 2, 1) := by decide +kernel
theorem dX4_permanent_14 : decode cX4_permanent 14 = .ok (.iload_n 2, 1) := by decide +kernel
theorem dX4_permanent_15 : decode cX4_permanent 15 = .ok (.ifCond .lt 21, 3) := by decide +kernel
theorem dX4_permanent_18 : decode cX4_permanent 18 = .ok (.aload_n 0, 1) := by decide +kernel
theorem dX4_permanent_19 : decode cX4_permanent 19 = .ok (.getfield 16, 3) := by decide +kernel
theorem dX4_permanent_22 : decode cX4_permanent 22 = .ok (.iload_n 2, 1) := by decide +kernel
theorem dX4_permanent_23 : decode cX4_permanent 23 = .ok (.ifCond .ge 7, 3) := by decide +kernel
theorem dX4_permanent_26 : decode cX4_permanent 26 = .ok (.iconst 0, 1) := by decide +kernel
theorem dX4_permanent_27 : decode cX4_permanent 27 = .ok (.goto 4, 3) := by decide +kernel
theorem dX4_permanent_30 : decode cX4_permanent 30 = .ok (.iload_n 2, 1) := by decide +kernel
theorem dX4_permanent_31 : decode cX4_permanent 31 = .ok (.baload, 1) := by decide +kernel
theorem dX4_permanent_32 : decode cX4_permanent 32 = .ok (.iload_n 1, 1) := by decide +kernel
theorem dX4_permanent_33 : decode cX4_permanent 33 = .ok (.if_icmp .ne 5, 3) := by decide +kernel
theorem dX4_permanent_36 : decode cX4_permanent 36 = .ok (.iconst 0, 1) := by decide +kernel
theorem dX4_permanent_37 : decode cX4_permanent 37 = .ok (.ireturn, 1) := by decide +kernel
theorem dX4_permanent_38 : decode cX4_permanent 38 = .ok (.aload_n 0, 1) := by decide +kernel
theorem dX4_permanent_39 : decode cX4_permanent 39 = .ok (.getfield 16, 3) := by decide +kernel
theorem dX4_permanent_42 : decode cX4_permanent 42 = .ok (.iload_n 2, 1) := by decide +kernel
theorem dX4_permanent_43 : decode cX4_permanent 43 = .ok (.iload_n 1, 1) := by decide +kernel
theorem dX4_permanent_44 : decode cX4_permanent 44 = .ok (.bastore, 1) := by decide +kernel
theorem dX4_permanent_45 : decode cX4_permanent 45 = .ok (.iconst 1, 1) := by decide +kernel
theorem dX4_permanent_46 : decode cX4_permanent 46 = .ok (.ireturn, 1) := by decide +kernel
theorem dX4_drop_0 : decode cX4_drop 0 = .ok (.aload_n 0, 1) := by decide +kernel
theorem dX4_drop_1 : decode cX4_drop 1 = .ok (.iload_n 1, 1) := by decide +kernel
theorem dX4_drop_2 : decode cX4_drop 2 = .ok (.ifCond .lt 8, 3) := by decide +kernel
theorem dX4_drop_5 : decode cX4_drop 5 = .ok (.iload_n 1, 1) := by decide +kernel
theorem dX4_drop_6 : decode cX4_drop 6 = .ok (.iconst 3, 1) := by decide +kernel
theorem dX4_drop_7 : decode cX4_drop 7 = .ok (.if_icmp .le 7, 3) := by decide +kernel
theorem dX4_drop_10 : decode cX4_drop 10 = .ok (.iconst 1, 1) := by decide +kernel
theorem dX4_drop_11 : decode cX4_drop 11 = .ok (.goto 4, 3) := by decide +kernel
theorem dX4_drop_14 : decode cX4_drop 14 = .ok (.iconst 0, 1) := by decide +kernel
theorem dX4_drop_15 : decode cX4_drop 15 = .ok (.putfield 45, 3) := by decide +kernel
theorem dX4_drop_18 : decode cX4_drop 18 = .ok (.aload_n 0, 1) := by decide +kernel
theorem dX4_drop_19 : decode cX4_drop 19 = .ok (.getfield 45, 3) := by decide +kernel
theorem dX4_drop_22 : decode cX4_drop 22 = .ok (.ifCond .le 5, 3) := by decide +kernel
theorem dX4_drop_25 : decode cX4_drop 25 = .ok (.iconst 0, 1) := by decide +kernel
theorem dX4_drop_26 : decode cX4_drop 26 = .ok (.ireturn, 1) := by decide +kernel
theorem dX4_drop_27 : decode cX4_drop 27 = .ok (.aload_n 0, 1) := by decide +kernel
theorem dX4_drop_28 : decode cX4_drop 28 = .ok (.iconst 0, 1) := by decide +kernel
theorem dX4_drop_29 : decode cX4_drop 29 = .ok (.putfield 58, 3) := by decide +kernel
theorem dX4_drop_32 : decode cX4_drop 32 = .ok (.iconst 0, 1) := by decide +kernel
theorem dX4_drop_33 : decode cX4_drop 33 = .ok (.istore_n 2, 1) := by decide +kernel
theorem dX4_drop_34 : decode cX4_drop 34 = .ok (.iload_n 1, 1) := by decide +kernel
theorem dX4_drop_35 : decode cX4_drop 35 = .ok (.iconst 3, 1) := by decide +kernel
theorem dX4_drop_36 : decode cX4_drop 36 = .ok (.if_icmp .ne 29, 3) := by decide +kernel
theorem dX4_drop_39 : decode cX4_drop 39 = .ok (.aload_n 0, 1) := by decide +kernel
theorem dX4_drop_40 : decode cX4_drop 40 = .ok (.aload_n 0, 1) := by decide +kernel
theorem dX4_drop_41 : decode cX4_drop 41 = .ok (.getfield 55, 3) := by decide +kernel
theorem dX4_drop_44 : decode cX4_drop 44 = .ok (.aload_n 0, 1) := by decide +kernel
theorem dX4_drop_45 : decode cX4_drop 45 = .ok (.getfield 52, 3) := by decide +kernel
theorem dX4_drop_48 : decode cX4_drop 48 = .ok (.invokevirtual 100, 3) := by decide +kernel
theorem dX4_drop_51 : decode cX4_drop 51 = .ok (.istore_n 3, 1) := by decide +kernel
theorem dX4_drop_52 : decode cX4_drop 52 = .ok (.iload_n 3, 1) := by decide +kernel
theorem dX4_drop_53 : decode cX4_drop 53 = .ok (.ifCond .lt 10, 3) := by decide +kernel
theorem dX4_drop_56 : decode cX4_drop 56 = .ok (.aload_n 0, 1) := by decide +kernel
theorem dX4_drop_57 : decode cX4_drop 57 = .ok (.iload_n 3, 1) := by decide +kernel
theorem dX4_drop_58 : decode cX4_drop 58 = .ok (.invokevirtual 82, 3) := by decide +kernel
theorem dX4_drop_61 : decode cX4_drop 61 = .ok (.iconst 1, 1) := by decide +kernel
theorem dX4_drop_62 : decode cX4_drop 62 = .ok (.istore_n 2, 1) := by decide +kernel
theorem dX4_drop_63 : decode cX4_drop 63 = .ok (.iload_n 2, 1) := by decide +kernel
theorem dX4_drop_64 : decode cX4_drop 64 = .ok (.ireturn, 1) := by decide +kernel
theorem dX4_drop_65 : decode cX4_drop 65 = .ok (.aload_n 0, 1) := by decide +kernel
theorem dX4_drop_66 : decode cX4_drop 66 = .ok (.getfield 66, 3) := by decide +kernel
theorem dX4_drop_69 : decode cX4_drop 69 = .ok (.iconst 1, 1) := by decide +kernel
theorem dX4_drop_70 : decode cX4_drop 70 = .ok (.isub, 1) := by decide +kernel
theorem dX4_drop_71 : decode cX4_drop 71 = .ok (.istore_n 3, 1) := by decide +kernel
theorem dX4_drop_72 : decode cX4_drop 72 = .ok (.iload_n 3, 1) := by decide +kernel
theorem dX4_drop_73 : decode cX4_drop 73 = .ok (.ifCond .lt 53, 3) := by decide +kernel
theorem dX4_drop_76 : decode cX4_drop 76 = .ok (.iload_n 1, 1) := by decide +kernel
theorem dX4_drop_77 : decode cX4_drop 77 = .ok (.ifCond .eq 35, 3) := by decide +kernel
theorem dX4_drop_80 : decode cX4_drop 80 = .ok (.iload_n 1, 1) := by decide +kernel
theorem dX4_drop_81 : decode cX4_drop 81 = .ok (.iconst 1, 1) := by decide +kernel
theorem dX4_drop_82 : decode cX4_drop 82 = .ok (.if_icmp .ne 12, 3) := by decide +kernel
theorem dX4_drop_85 : decode cX4_drop 85 = .ok (.aload_n 0, 1) := by decide +kernel
theorem dX4_drop_86 : decode cX4_drop 86 = .ok (.getfield 16, 3) := by decide +kernel
theorem dX4_drop_89 : decode cX4_drop 89 = .ok (.iload_n 3, 1) := by decide +kernel
theorem dX4_drop_90 : decode cX4_drop 90 = .ok (.baload, 1) := by decide +kernel
theorem dX4_drop_91 : decode cX4_drop 91 = .ok (.ifCond .eq 21, 3) := by decide +kernel
theorem dX4_drop_94 : decode cX4_drop 94 = .ok (.iload_n 1, 1) := by decide +kernel
theorem dX4_drop_95 : decode cX4_drop 95 = .ok (.iconst 2, 1) := by decide +kernel
theorem dX4_drop_96 : decode cX4_drop 96 = .ok (.if_icmp .ne 24, 3) := by decide +kernel
theorem dX4_drop_99 : decode cX4_drop 99 = .ok (.aload_n 0, 1) := by decide +kernel
theorem dX4_drop_100 : decode cX4_drop 100 = .ok (.getfield 7, 3) := by decide +kernel
theorem dX4_drop_103 : decode cX4_drop 103 = .ok (.iload_n 3, 1) := by decide +kernel
theorem dX4_drop_104 : decode cX4_drop 104 = .ok (.iaload, 1) := by decide +kernel
theorem dX4_drop_105 : decode cX4_drop 105 = .ok (.aload_n 0, 1) := by decide +kernel
theorem dX4_drop_106 : decode cX4_drop 106 = .ok (.getfield 55, 3) := by decide +kernel
theorem dX4_drop_109 : decode cX4_drop 109 = .ok (.if_icmp .ne 11, 3) := by decide +kernel
theorem dX4_drop_112 : decode cX4_drop 112 = .ok (.aload_n 0, 1) := by decide +kernel
theorem dX4_drop_113 : decode cX4_drop 113 = .ok (.iload_n 3, 1) := by decide +kernel
theorem dX4_drop_114 : decode cX4_drop 114 = .ok (.invokevirtual 89, 3) := by decide +kernel
theorem dX4_drop_117 : decode cX4_drop 117 = .ok (.iinc 2 1, 3) := by decide +kernel
theorem dX4_drop_120 : decode cX4_drop 120 = .ok (.iinc 3 (-1), 3) := by decide +kernel
theorem dX4_drop_123 : decode cX4_drop 123 = .ok (.goto (-51), 3) := by decide +kernel
theorem dX4_drop_126 : decode cX4_drop 126 = .ok (.iload_n 2, 1) := by decide +kernel
theorem dX4_drop_127 : decode cX4_drop 127 = .ok (.ireturn, 1) := by decide +kernel
theorem dX4_pin_0 : decode cX4_pin 0 = .ok (.aload_n 0, 1) := by decide +kernel
theorem dX4_pin_1 : decode cX4_pin 1 = .ok (.iconst 0, 1) := by decide +kernel
theorem dX4_pin_2 : decode cX4_pin 2 = .ok (.putfield 45, 3) := by decide +kernel
theorem dX4_pin_5 : decode cX4_pin 5 = .ok (.aload_n 0, 1) := by decide +kernel
theorem dX4_pin_6 : decode cX4_pin 6 = .ok (.iload_n 2, 1) := by decide +kernel
theorem dX4_pin_7 : decode cX4_pin 7 = .ok (.invokevirtual 86, 3) := by decide +kernel
theorem dX4_pin_10 : decode cX4_pin 10 = .ok (.istore_n 3, 1) := by decide +kernel
theorem dX4_pin_11 : decode cX4_pin 11 = .ok (.iload_n 3, 1) := by decide +kernel
theorem dX4_pin_12 : decode cX4_pin 12 = .ok (.ifCond .lt 12, 3) := by decide +kernel
theorem dX4_pin_15 : decode cX4_pin 15 = .ok (.iload_n 1, 1) := by decide +kernel
theorem dX4_pin_16 : decode cX4_pin 16 = .ok (.ifCond .eq 10, 3) := by decide +kernel
theorem dX4_pin_19 : decode cX4_pin 19 = .ok (.iload_n 1, 1) := by decide +kernel
theorem dX4_pin_20 : decode cX4_pin 20 = .ok (.iconst 1, 1) := by decide +kernel
theorem dX4_pin_21 : decode cX4_pin 21 = .ok (.if_icmp .eq 5, 3) := by decide +kernel
theorem dX4_pin_24 : decode cX4_pin 24 = .ok (.iconst 0, 1) := by decide +kernel
theorem dX4_pin_25 : decode cX4_pin 25 = .ok (.ireturn, 1) := by decide +kernel
theorem dX4_pin_26 : decode cX4_pin 26 = .ok (.aload_n 0, 1) := by decide +kernel
theorem dX4_pin_27 : decode cX4_pin 27 = .ok (.getfield 33, 3) := by decide +kernel
theorem dX4_pin_30 : decode cX4_pin 30 = .ok (.iload_n 1, 1) := by decide +kernel
theorem dX4_pin_31 : decode cX4_pin 31 = .ok (.iload_n 2, 1) := by decide +kernel
theorem dX4_pin_32 : decode cX4_pin 32 = .ok (.iastore, 1) := by decide +kernel
theorem dX4_pin_33 : decode cX4_pin 33 = .ok (.iconst 0, 1) := by decide +kernel
theorem dX4_pin_34 : decode cX4_pin 34 = .ok (.istore 4, 2) := by decide +kernel
theorem dX4_pin_36 : decode cX4_pin 36 = .ok (.iload 4, 2) := by decide +kernel
theorem dX4_pin_38 : decode cX4_pin 38 = .ok (.bipush 7, 2) := by decide +kernel
theorem dX4_pin_40 : decode cX4_pin 40 = .ok (.if_icmp .ge 33, 3) := by decide +kernel
theorem dX4_pin_43 : decode cX4_pin 43 = .ok (.aload_n 0, 1) := by decide +kernel
theorem dX4_pin_44 : decode cX4_pin 44 = .ok (.getfield 30, 3) := by decide +kernel
theorem dX4_pin_47 : decode cX4_pin 47 = .ok (.bipush 7, 2) := by decide +kernel
theorem dX4_pin_49 : decode cX4_pin 49 = .ok (.iload_n 1, 1) := by decide +kernel
theorem dX4_pin_50 : decode cX4_pin 50 = .ok (.imul, 1) := by decide +kernel
theorem dX4_pin_51 : decode cX4_pin 51 = .ok (.iload 4, 2) := by decide +kernel
theorem dX4_pin_53 : decode cX4_pin 53 = .ok (.iadd, 1) := by decide +kernel
theorem dX4_pin_54 : decode cX4_pin 54 = .ok (.aload_n 0, 1) := by decide +kernel
theorem dX4_pin_55 : decode cX4_pin 55 = .ok (.getfield 13, 3) := by decide +kernel
theorem dX4_pin_58 : decode cX4_pin 58 = .ok (.bipush 7, 2) := by decide +kernel
theorem dX4_pin_60 : decode cX4_pin 60 = .ok (.iload_n 3, 1) := by decide +kernel
theorem dX4_pin_61 : decode cX4_pin 61 = .ok (.imul, 1) := by decide +kernel
theorem dX4_pin_62 : decode cX4_pin 62 = .ok (.iload 4, 2) := by decide +kernel
theorem dX4_pin_64 : decode cX4_pin 64 = .ok (.iadd, 1) := by decide +kernel
theorem dX4_pin_65 : decode cX4_pin 65 = .ok (.iaload, 1) := by decide +kernel
theorem dX4_pin_66 : decode cX4_pin 66 = .ok (.iastore, 1) := by decide +kernel
theorem dX4_pin_67 : decode cX4_pin 67 = .ok (.iinc 4 1, 3) := by decide +kernel
theorem dX4_pin_70 : decode cX4_pin 70 = .ok (.goto (-34), 3) := by decide +kernel
theorem dX4_pin_73 : decode cX4_pin 73 = .ok (.iconst 1, 1) := by decide +kernel
theorem dX4_pin_74 : decode cX4_pin 74 = .ok (.ireturn, 1) := by decide +kernel
theorem dX4_strike_0 : decode cX4_strike 0 = .ok (.iconst 0, 1) := by decide +kernel
theorem dX4_strike_1 : decode cX4_strike 1 = .ok (.istore_n 3, 1) := by decide +kernel
theorem dX4_strike_2 : decode cX4_strike 2 = .ok (.iconst 0, 1) := by decide +kernel
theorem dX4_strike_3 : decode cX4_strike 3 = .ok (.istore 4, 2) := by decide +kernel
theorem dX4_strike_5 : decode cX4_strike 5 = .ok (.iload 4, 2) := by decide +kernel
theorem dX4_strike_7 : decode cX4_strike 7 = .ok (.aload_n 0, 1) := by decide +kernel
theorem dX4_strike_8 : decode cX4_strike 8 = .ok (.getfield 66, 3) := by decide +kernel
theorem dX4_strike_11 : decode cX4_strike 11 = .ok (.if_icmp .ge 45, 3) := by decide +kernel
theorem dX4_strike_14 : decode cX4_strike 14 = .ok (.iload_n 3, 1) := by decide +kernel
theorem dX4_strike_15 : decode cX4_strike 15 = .ok (.ifCond .ne 29, 3) := by decide +kernel
theorem dX4_strike_18 : decode cX4_strike 18 = .ok (.aload_n 0, 1) := by decide +kernel
theorem dX4_strike_19 : decode cX4_strike 19 = .ok (.getfield 42, 3) := by decide +kernel
theorem dX4_strike_22 : decode cX4_strike 22 = .ok (.iload 4, 2) := by decide +kernel
theorem dX4_strike_24 : decode cX4_strike 24 = .ok (.baload, 1) := by decide +kernel
theorem dX4_strike_25 : decode cX4_strike 25 = .ok (.ifCond .eq 23, 3) := by decide +kernel
theorem dX4_strike_28 : decode cX4_strike 28 = .ok (.aload_n 0, 1) := by decide +kernel
theorem dX4_strike_29 : decode cX4_strike 29 = .ok (.getfield 13, 3) := by decide +kernel
theorem dX4_strike_32 : decode cX4_strike 32 = .ok (.bipush 7, 2) := by decide +kernel
theorem dX4_strike_34 : decode cX4_strike 34 = .ok (.iload 4, 2) := by decide +kernel
theorem dX4_strike_36 : decode cX4_strike 36 = .ok (.imul, 1) := by decide +kernel
theorem dX4_strike_37 : decode cX4_strike 37 = .ok (.iload_n 1, 1) := by decide +kernel
theorem dX4_strike_38 : decode cX4_strike 38 = .ok (.iadd, 1) := by decide +kernel
theorem dX4_strike_39 : decode cX4_strike 39 = .ok (.iaload, 1) := by decide +kernel
theorem dX4_strike_40 : decode cX4_strike 40 = .ok (.iload_n 2, 1) := by decide +kernel
theorem dX4_strike_41 : decode cX4_strike 41 = .ok (.if_icmp .ne 7, 3) := by decide +kernel
theorem dX4_strike_44 : decode cX4_strike 44 = .ok (.iconst 1, 1) := by decide +kernel
theorem dX4_strike_45 : decode cX4_strike 45 = .ok (.goto 4, 3) := by decide +kernel
theorem dX4_strike_48 : decode cX4_strike 48 = .ok (.iconst 0, 1) := by decide +kernel
theorem dX4_strike_49 : decode cX4_strike 49 = .ok (.istore_n 3, 1) := by decide +kernel
theorem dX4_strike_50 : decode cX4_strike 50 = .ok (.iinc 4 1, 3) := by decide +kernel
theorem dX4_strike_53 : decode cX4_strike 53 = .ok (.goto (-48), 3) := by decide +kernel
theorem dX4_strike_56 : decode cX4_strike 56 = .ok (.iconst 0, 1) := by decide +kernel
theorem dX4_strike_57 : decode cX4_strike 57 = .ok (.istore 4, 2) := by decide +kernel
theorem dX4_strike_59 : decode cX4_strike 59 = .ok (.iload 4, 2) := by decide +kernel
theorem dX4_strike_61 : decode cX4_strike 61 = .ok (.aload_n 0, 1) := by decide +kernel
theorem dX4_strike_62 : decode cX4_strike 62 = .ok (.getfield 66, 3) := by decide +kernel
theorem dX4_strike_65 : decode cX4_strike 65 = .ok (.if_icmp .ge 51, 3) := by decide +kernel
theorem dX4_strike_68 : decode cX4_strike 68 = .ok (.iload_n 3, 1) := by decide +kernel
theorem dX4_strike_69 : decode cX4_strike 69 = .ok (.ifCond .eq 47, 3) := by decide +kernel
theorem dX4_strike_72 : decode cX4_strike 72 = .ok (.aload_n 0, 1) := by decide +kernel
theorem dX4_strike_73 : decode cX4_strike 73 = .ok (.getfield 42, 3) := by decide +kernel
theorem dX4_strike_76 : decode cX4_strike 76 = .ok (.iload 4, 2) := by decide +kernel
theorem dX4_strike_78 : decode cX4_strike 78 = .ok (.aload_n 0, 1) := by decide +kernel
theorem dX4_strike_79 : decode cX4_strike 79 = .ok (.getfield 42, 3) := by decide +kernel
theorem dX4_strike_82 : decode cX4_strike 82 = .ok (.iload 4, 2) := by decide +kernel
theorem dX4_strike_84 : decode cX4_strike 84 = .ok (.baload, 1) := by decide +kernel
theorem dX4_strike_85 : decode cX4_strike 85 = .ok (.ifCond .eq 23, 3) := by decide +kernel
theorem dX4_strike_88 : decode cX4_strike 88 = .ok (.aload_n 0, 1) := by decide +kernel
theorem dX4_strike_89 : decode cX4_strike 89 = .ok (.getfield 13, 3) := by decide +kernel
theorem dX4_strike_92 : decode cX4_strike 92 = .ok (.bipush 7, 2) := by decide +kernel
theorem dX4_strike_94 : decode cX4_strike 94 = .ok (.iload 4, 2) := by decide +kernel
theorem dX4_strike_96 : decode cX4_strike 96 = .ok (.imul, 1) := by decide +kernel
theorem dX4_strike_97 : decode cX4_strike 97 = .ok (.iload_n 1, 1) := by decide +kernel
theorem dX4_strike_98 : decode cX4_strike 98 = .ok (.iadd, 1) := by decide +kernel
theorem dX4_strike_99 : decode cX4_strike 99 = .ok (.iaload, 1) := by decide +kernel
theorem dX4_strike_100 : decode cX4_strike 100 = .ok (.iload_n 2, 1) := by decide +kernel
theorem dX4_strike_101 : decode cX4_strike 101 = .ok (.if_icmp .ne 7, 3) := by decide +kernel
theorem dX4_strike_104 : decode cX4_strike 104 = .ok (.iconst 1, 1) := by decide +kernel
theorem dX4_strike_105 : decode cX4_strike 105 = .ok (.goto 4, 3) := by decide +kernel
theorem dX4_strike_108 : decode cX4_strike 108 = .ok (.iconst 0, 1) := by decide +kernel
theorem dX4_strike_109 : decode cX4_strike 109 = .ok (.bastore, 1) := by decide +kernel
theorem dX4_strike_110 : decode cX4_strike 110 = .ok (.iinc 4 1, 3) := by decide +kernel
theorem dX4_strike_113 : decode cX4_strike 113 = .ok (.goto (-54), 3) := by decide +kernel
theorem dX4_strike_116 : decode cX4_strike 116 = .ok (.iload_n 3, 1) := by decide +kernel
theorem dX4_strike_117 : decode cX4_strike 117 = .ok (.ireturn, 1) := by decide +kernel
theorem dX4_end_0 : decode cX4_end 0 = .ok (.iload_n 2, 1) := by decide +kernel
theorem dX4_end_1 : decode cX4_end 1 = .ok (.iconst 1, 1) := by decide +kernel
theorem dX4_end_2 : decode cX4_end 2 = .ok (.isub, 1) := by decide +kernel
theorem dX4_end_3 : decode cX4_end 3 = .ok (.istore 5, 2) := by decide +kernel
theorem dX4_end_5 : decode cX4_end 5 = .ok (.iconst 0, 1) := by decide +kernel
theorem dX4_end_6 : decode cX4_end 6 = .ok (.istore 6, 2) := by decide +kernel
theorem dX4_end_8 : decode cX4_end 8 = .ok (.iload 6, 2) := by decide +kernel
theorem dX4_end_10 : decode cX4_end 10 = .ok (.aload_n 0, 1) := by decide +kernel
theorem dX4_end_11 : decode cX4_end 11 = .ok (.getfield 66, 3) := by decide +kernel
theorem dX4_end_14 : decode cX4_end 14 = .ok (.if_icmp .ge 94, 3) := by decide +kernel
theorem dX4_end_17 : decode cX4_end 17 = .ok (.aload_n 0, 1) := by decide +kernel
theorem dX4_end_18 : decode cX4_end 18 = .ok (.getfield 13, 3) := by decide +kernel
theorem dX4_end_21 : decode cX4_end 21 = .ok (.bipush 7, 2) := by decide +kernel
theorem dX4_end_23 : decode cX4_end 23 = .ok (.iload 6, 2) := by decide +kernel
theorem dX4_end_25 : decode cX4_end 25 = .ok (.imul, 1) := by decide +kernel
theorem dX4_end_26 : decode cX4_end 26 = .ok (.iload_n 1, 1) := by decide +kernel
theorem dX4_end_27 : decode cX4_end 27 = .ok (.iadd, 1) := by decide +kernel
theorem dX4_end_28 : decode cX4_end 28 = .ok (.iaload, 1) := by decide +kernel
theorem dX4_end_29 : decode cX4_end 29 = .ok (.istore 7, 2) := by decide +kernel
theorem dX4_end_31 : decode cX4_end 31 = .ok (.aload_n 0, 1) := by decide +kernel
theorem dX4_end_32 : decode cX4_end 32 = .ok (.getfield 42, 3) := by decide +kernel
theorem dX4_end_35 : decode cX4_end 35 = .ok (.iload 6, 2) := by decide +kernel
theorem dX4_end_37 : decode cX4_end 37 = .ok (.baload, 1) := by decide +kernel
theorem dX4_end_38 : decode cX4_end 38 = .ok (.ifCond .eq 19, 3) := by decide +kernel
theorem dX4_end_41 : decode cX4_end 41 = .ok (.iload 7, 2) := by decide +kernel
theorem dX4_end_43 : decode cX4_end 43 = .ok (.iload_n 2, 1) := by decide +kernel
theorem dX4_end_44 : decode cX4_end 44 = .ok (.if_icmp .lt 13, 3) := by decide +kernel
theorem dX4_end_47 : decode cX4_end 47 = .ok (.iload 7, 2) := by decide +kernel
theorem dX4_end_49 : decode cX4_end 49 = .ok (.iload_n 3, 1) := by decide +kernel
theorem dX4_end_50 : decode cX4_end 50 = .ok (.if_icmp .gt 7, 3) := by decide +kernel
theorem dX4_end_53 : decode cX4_end 53 = .ok (.iconst 1, 1) := by decide +kernel
theorem dX4_end_54 : decode cX4_end 54 = .ok (.goto 4, 3) := by decide +kernel
theorem dX4_end_57 : decode cX4_end 57 = .ok (.iconst 0, 1) := by decide +kernel
theorem dX4_end_58 : decode cX4_end 58 = .ok (.istore 8, 2) := by decide +kernel
theorem dX4_end_60 : decode cX4_end 60 = .ok (.iload 8, 2) := by decide +kernel
theorem dX4_end_62 : decode cX4_end 62 = .ok (.ifCond .eq 36, 3) := by decide +kernel
theorem dX4_end_65 : decode cX4_end 65 = .ok (.iload 5, 2) := by decide +kernel
theorem dX4_end_67 : decode cX4_end 67 = .ok (.iload_n 2, 1) := by decide +kernel
theorem dX4_end_68 : decode cX4_end 68 = .ok (.if_icmp .lt 25, 3) := by decide +kernel
theorem dX4_end_71 : decode cX4_end 71 = .ok (.iload 4, 2) := by decide +kernel
theorem dX4_end_73 : decode cX4_end 73 = .ok (.ifCond .eq 13, 3) := by decide +kernel
theorem dX4_end_76 : decode cX4_end 76 = .ok (.iload 7, 2) := by decide +kernel
theorem dX4_end_78 : decode cX4_end 78 = .ok (.iload 5, 2) := by decide +kernel
theorem dX4_end_80 : decode cX4_end 80 = .ok (.if_icmp .ge 18, 3) := by decide +kernel
theorem dX4_end_83 : decode cX4_end 83 = .ok (.goto 10, 3) := by decide +kernel
theorem dX4_end_86 : decode cX4_end 86 = .ok (.iload 7, 2) := by decide +kernel
theorem dX4_end_88 : decode cX4_end 88 = .ok (.iload 5, 2) := by decide +kernel
theorem dX4_end_90 : decode cX4_end 90 = .ok (.if_icmp .le 8, 3) := by decide +kernel
theorem dX4_end_93 : decode cX4_end 93 = .ok (.iload 7, 2) := by decide +kernel
theorem dX4_end_95 : decode cX4_end 95 = .ok (.goto 5, 3) := by decide +kernel
theorem dX4_end_98 : decode cX4_end 98 = .ok (.iload 5, 2) := by decide +kernel
theorem dX4_end_100 : decode cX4_end 100 = .ok (.istore 5, 2) := by decide +kernel
theorem dX4_end_102 : decode cX4_end 102 = .ok (.iinc 6 1, 3) := by decide +kernel
theorem dX4_end_105 : decode cX4_end 105 = .ok (.goto (-97), 3) := by decide +kernel
theorem dX4_end_108 : decode cX4_end 108 = .ok (.iload 5, 2) := by decide +kernel
theorem dX4_end_110 : decode cX4_end 110 = .ok (.ireturn, 1) := by decide +kernel
theorem dX4_byPitch_0 : decode cX4_byPitch 0 = .ok (.aload_n 0, 1) := by decide +kernel
theorem dX4_byPitch_1 : decode cX4_byPitch 1 = .ok (.iconst 1, 1) := by decide +kernel
theorem dX4_byPitch_2 : decode cX4_byPitch 2 = .ok (.iconst 1, 1) := by decide +kernel
theorem dX4_byPitch_3 : decode cX4_byPitch 3 = .ok (.iconst 1, 1) := by decide +kernel
theorem dX4_byPitch_4 : decode cX4_byPitch 4 = .ok (.iconst 1, 1) := by decide +kernel
theorem dX4_byPitch_5 : decode cX4_byPitch 5 = .ok (.invokevirtual 110, 3) := by decide +kernel
theorem dX4_byPitch_8 : decode cX4_byPitch 8 = .ok (.iconst 1, 1) := by decide +kernel
theorem dX4_byPitch_9 : decode cX4_byPitch 9 = .ok (.if_icmp .ne 4, 3) := by decide +kernel
theorem dX4_byPitch_12 : decode cX4_byPitch 12 = .ok (.return_, 1) := by decide +kernel
theorem dX4_byPitch_13 : decode cX4_byPitch 13 = .ok (.aload_n 0, 1) := by decide +kernel
theorem dX4_byPitch_14 : decode cX4_byPitch 14 = .ok (.iconst 2, 1) := by decide +kernel
theorem dX4_byPitch_15 : decode cX4_byPitch 15 = .ok (.iload_n 1, 1) := by decide +kernel
theorem dX4_byPitch_16 : decode cX4_byPitch 16 = .ok (.ldc 49, 2) := by decide +kernel
theorem dX4_byPitch_18 : decode cX4_byPitch 18 = .ok (.iconst 1, 1) := by decide +kernel
theorem dX4_byPitch_19 : decode cX4_byPitch 19 = .ok (.invokevirtual 110, 3) := by decide +kernel
theorem dX4_byPitch_22 : decode cX4_byPitch 22 = .ok (.istore_n 2, 1) := by decide +kernel
theorem dX4_byPitch_23 : decode cX4_byPitch 23 = .ok (.aload_n 0, 1) := by decide +kernel
theorem dX4_byPitch_24 : decode cX4_byPitch 24 = .ok (.iconst 2, 1) := by decide +kernel
theorem dX4_byPitch_25 : decode cX4_byPitch 25 = .ok (.iload_n 2, 1) := by decide +kernel
theorem dX4_byPitch_26 : decode cX4_byPitch 26 = .ok (.iload_n 1, 1) := by decide +kernel
theorem dX4_byPitch_27 : decode cX4_byPitch 27 = .ok (.if_icmp .ge 14, 3) := by decide +kernel
theorem dX4_byPitch_30 : decode cX4_byPitch 30 = .ok (.aload_n 0, 1) := by decide +kernel
theorem dX4_byPitch_31 : decode cX4_byPitch 31 = .ok (.iconst 2, 1) := by decide +kernel
theorem dX4_byPitch_32 : decode cX4_byPitch 32 = .ok (.iconst 1, 1) := by decide +kernel
theorem dX4_byPitch_33 : decode cX4_byPitch 33 = .ok (.iload_n 1, 1) := by decide +kernel
theorem dX4_byPitch_34 : decode cX4_byPitch 34 = .ok (.iconst 0, 1) := by decide +kernel
theorem dX4_byPitch_35 : decode cX4_byPitch 35 = .ok (.invokevirtual 110, 3) := by decide +kernel
theorem dX4_byPitch_38 : decode cX4_byPitch 38 = .ok (.goto 4, 3) := by decide +kernel
theorem dX4_byPitch_41 : decode cX4_byPitch 41 = .ok (.iload_n 2, 1) := by decide +kernel
theorem dX4_byPitch_42 : decode cX4_byPitch 42 = .ok (.invokevirtual 114, 3) := by decide +kernel
theorem dX4_byPitch_45 : decode cX4_byPitch 45 = .ok (.istore_n 3, 1) := by decide +kernel
theorem dX4_byPitch_46 : decode cX4_byPitch 46 = .ok (.return_, 1) := by decide +kernel
theorem dX4_byHeight_0 : decode cX4_byHeight 0 = .ok (.aload_n 0, 1) := by decide +kernel
theorem dX4_byHeight_1 : decode cX4_byHeight 1 = .ok (.iconst 3, 1) := by decide +kernel
theorem dX4_byHeight_2 : decode cX4_byHeight 2 = .ok (.iload_n 1, 1) := by decide +kernel
theorem dX4_byHeight_3 : decode cX4_byHeight 3 = .ok (.ldc 50, 2) := by decide +kernel
theorem dX4_byHeight_5 : decode cX4_byHeight 5 = .ok (.iconst 1, 1) := by decide +kernel
theorem dX4_byHeight_6 : decode cX4_byHeight 6 = .ok (.invokevirtual 110, 3) := by decide +kernel
theorem dX4_byHeight_9 : decode cX4_byHeight 9 = .ok (.istore_n 2, 1) := by decide +kernel
theorem dX4_byHeight_10 : decode cX4_byHeight 10 = .ok (.aload_n 0, 1) := by decide +kernel
theorem dX4_byHeight_11 : decode cX4_byHeight 11 = .ok (.iconst 3, 1) := by decide +kernel
theorem dX4_byHeight_12 : decode cX4_byHeight 12 = .ok (.iconst 1, 1) := by decide +kernel
theorem dX4_byHeight_13 : decode cX4_byHeight 13 = .ok (.iload_n 1, 1) := by decide +kernel
theorem dX4_byHeight_14 : decode cX4_byHeight 14 = .ok (.iconst 0, 1) := by decide +kernel
theorem dX4_byHeight_15 : decode cX4_byHeight 15 = .ok (.invokevirtual 110, 3) := by decide +kernel
theorem dX4_byHeight_18 : decode cX4_byHeight 18 = .ok (.istore_n 3, 1) := by decide +kernel
theorem dX4_byHeight_19 : decode cX4_byHeight 19 = .ok (.iload_n 2, 1) := by decide +kernel
theorem dX4_byHeight_20 : decode cX4_byHeight 20 = .ok (.iload_n 1, 1) := by decide +kernel
theorem dX4_byHeight_21 : decode cX4_byHeight 21 = .ok (.if_icmp .lt 21, 3) := by decide +kernel
theorem dX4_byHeight_24 : decode cX4_byHeight 24 = .ok (.iload_n 3, 1) := by decide +kernel
theorem dX4_byHeight_25 : decode cX4_byHeight 25 = .ok (.iconst 1, 1) := by decide +kernel
theorem dX4_byHeight_26 : decode cX4_byHeight 26 = .ok (.if_icmp .lt 12, 3) := by decide +kernel
theorem dX4_byHeight_29 : decode cX4_byHeight 29 = .ok (.iload_n 2, 1) := by decide +kernel
theorem dX4_byHeight_30 : decode cX4_byHeight 30 = .ok (.iload_n 1, 1) := by decide +kernel
theorem dX4_byHeight_31 : decode cX4_byHeight 31 = .ok (.isub, 1) := by decide +kernel
theorem dX4_byHeight_32 : decode cX4_byHeight 32 = .ok (.iload_n 1, 1) := by decide +kernel
theorem dX4_byHeight_33 : decode cX4_byHeight 33 = .ok (.iload_n 3, 1) := by decide +kernel
theorem dX4_byHeight_34 : decode cX4_byHeight 34 = .ok (.isub, 1) := by decide +kernel
theorem dX4_byHeight_35 : decode cX4_byHeight 35 = .ok (.if_icmp .gt 7, 3) := by decide +kernel
theorem dX4_byHeight_38 : decode cX4_byHeight 38 = .ok (.iconst 1, 1) := by decide +kernel
theorem dX4_byHeight_39 : decode cX4_byHeight 39 = .ok (.goto 4, 3) := by decide +kernel
theorem dX4_byHeight_42 : decode cX4_byHeight 42 = .ok (.iconst 0, 1) := by decide +kernel
theorem dX4_byHeight_43 : decode cX4_byHeight 43 = .ok (.istore 4, 2) := by decide +kernel
theorem dX4_byHeight_45 : decode cX4_byHeight 45 = .ok (.aload_n 0, 1) := by decide +kernel
theorem dX4_byHeight_46 : decode cX4_byHeight 46 = .ok (.iconst 3, 1) := by decide +kernel
theorem dX4_byHeight_47 : decode cX4_byHeight 47 = .ok (.iload 4, 2) := by decide +kernel
theorem dX4_byHeight_49 : decode cX4_byHeight 49 = .ok (.ifCond .eq 7, 3) := by decide +kernel
theorem dX4_byHeight_52 : decode cX4_byHeight 52 = .ok (.iload_n 2, 1) := by decide +kernel
theorem dX4_byHeight_53 : decode cX4_byHeight 53 = .ok (.goto 4, 3) := by decide +kernel
theorem dX4_byHeight_56 : decode cX4_byHeight 56 = .ok (.iload_n 3, 1) := by decide +kernel
theorem dX4_byHeight_57 : decode cX4_byHeight 57 = .ok (.invokevirtual 114, 3) := by decide +kernel
theorem dX4_byHeight_60 : decode cX4_byHeight 60 = .ok (.istore 5, 2) := by decide +kernel
theorem dX4_byHeight_62 : decode cX4_byHeight 62 = .ok (.return_, 1) := by decide +kernel
theorem dX4_byWeight_0 : decode cX4_byWeight 0 = .ok (.aload_n 0, 1) := by decide +kernel
theorem dX4_byWeight_1 : decode cX4_byWeight 1 = .ok (.iconst 5, 1) := by decide +kernel
theorem dX4_byWeight_2 : decode cX4_byWeight 2 = .ok (.iload_n 1, 1) := by decide +kernel
theorem dX4_byWeight_3 : decode cX4_byWeight 3 = .ok (.invokevirtual 114, 3) := by decide +kernel
theorem dX4_byWeight_6 : decode cX4_byWeight 6 = .ok (.ifCond .eq 4, 3) := by decide +kernel
theorem dX4_byWeight_9 : decode cX4_byWeight 9 = .ok (.return_, 1) := by decide +kernel
theorem dX4_byWeight_10 : decode cX4_byWeight 10 = .ok (.iload_n 1, 1) := by decide +kernel
theorem dX4_byWeight_11 : decode cX4_byWeight 11 = .ok (.ifCond .lt 17, 3) := by decide +kernel
theorem dX4_byWeight_14 : decode cX4_byWeight 14 = .ok (.aload_n 0, 1) := by decide +kernel
theorem dX4_byWeight_15 : decode cX4_byWeight 15 = .ok (.iconst 5, 1) := by decide +kernel
theorem dX4_byWeight_16 : decode cX4_byWeight 16 = .ok (.iload_n 1, 1) := by decide +kernel
theorem dX4_byWeight_17 : decode cX4_byWeight 17 = .ok (.iconst 1, 1) := by decide +kernel
theorem dX4_byWeight_18 : decode cX4_byWeight 18 = .ok (.iadd, 1) := by decide +kernel
theorem dX4_byWeight_19 : decode cX4_byWeight 19 = .ok (.bipush 7, 2) := by decide +kernel
theorem dX4_byWeight_21 : decode cX4_byWeight 21 = .ok (.iconst 1, 1) := by decide +kernel
theorem dX4_byWeight_22 : decode cX4_byWeight 22 = .ok (.invokevirtual 110, 3) := by decide +kernel
theorem dX4_byWeight_25 : decode cX4_byWeight 25 = .ok (.goto 14, 3) := by decide +kernel
theorem dX4_byWeight_28 : decode cX4_byWeight 28 = .ok (.aload_n 0, 1) := by decide +kernel
theorem dX4_byWeight_29 : decode cX4_byWeight 29 = .ok (.iconst 5, 1) := by decide +kernel
theorem dX4_byWeight_30 : decode cX4_byWeight 30 = .ok (.bipush (-7), 2) := by decide +kernel
theorem dX4_byWeight_32 : decode cX4_byWeight 32 = .ok (.iload_n 1, 1) := by decide +kernel
theorem dX4_byWeight_33 : decode cX4_byWeight 33 = .ok (.iconst 1, 1) := by decide +kernel
theorem dX4_byWeight_34 : decode cX4_byWeight 34 = .ok (.isub, 1) := by decide +kernel
theorem dX4_byWeight_35 : decode cX4_byWeight 35 = .ok (.iconst 0, 1) := by decide +kernel
theorem dX4_byWeight_36 : decode cX4_byWeight 36 = .ok (.invokevirtual 110, 3) := by decide +kernel
theorem dX4_byWeight_39 : decode cX4_byWeight 39 = .ok (.istore_n 2, 1) := by decide +kernel
theorem dX4_byWeight_40 : decode cX4_byWeight 40 = .ok (.iload_n 1, 1) := by decide +kernel
theorem dX4_byWeight_41 : decode cX4_byWeight 41 = .ok (.ifCond .lt 16, 3) := by decide +kernel
theorem dX4_byWeight_44 : decode cX4_byWeight 44 = .ok (.iload_n 2, 1) := by decide +kernel
theorem dX4_byWeight_45 : decode cX4_byWeight 45 = .ok (.iload_n 1, 1) := by decide +kernel
theorem dX4_byWeight_46 : decode cX4_byWeight 46 = .ok (.if_icmp .ne 7, 3) := by decide +kernel
theorem dX4_byWeight_49 : decode cX4_byWeight 49 = .ok (.iconst 1, 1) := by decide +kernel
theorem dX4_byWeight_50 : decode cX4_byWeight 50 = .ok (.goto 18, 3) := by decide +kernel
theorem dX4_byWeight_53 : decode cX4_byWeight 53 = .ok (.iconst 0, 1) := by decide +kernel
theorem dX4_byWeight_54 : decode cX4_byWeight 54 = .ok (.goto 14, 3) := by decide +kernel
theorem dX4_byWeight_57 : decode cX4_byWeight 57 = .ok (.iload_n 2, 1) := by decide +kernel
theorem dX4_byWeight_58 : decode cX4_byWeight 58 = .ok (.bipush (-8), 2) := by decide +kernel
theorem dX4_byWeight_60 : decode cX4_byWeight 60 = .ok (.if_icmp .ne 7, 3) := by decide +kernel
theorem dX4_byWeight_63 : decode cX4_byWeight 63 = .ok (.iconst 1, 1) := by decide +kernel
theorem dX4_byWeight_64 : decode cX4_byWeight 64 = .ok (.goto 4, 3) := by decide +kernel
theorem dX4_byWeight_67 : decode cX4_byWeight 67 = .ok (.iconst 0, 1) := by decide +kernel
theorem dX4_byWeight_68 : decode cX4_byWeight 68 = .ok (.istore_n 3, 1) := by decide +kernel
theorem dX4_byWeight_69 : decode cX4_byWeight 69 = .ok (.aload_n 0, 1) := by decide +kernel
theorem dX4_byWeight_70 : decode cX4_byWeight 70 = .ok (.iconst 5, 1) := by decide +kernel
theorem dX4_byWeight_71 : decode cX4_byWeight 71 = .ok (.iload_n 3, 1) := by decide +kernel
theorem dX4_byWeight_72 : decode cX4_byWeight 72 = .ok (.ifCond .eq 24, 3) := by decide +kernel
theorem dX4_byWeight_75 : decode cX4_byWeight 75 = .ok (.aload_n 0, 1) := by decide +kernel
theorem dX4_byWeight_76 : decode cX4_byWeight 76 = .ok (.iconst 5, 1) := by decide +kernel
theorem dX4_byWeight_77 : decode cX4_byWeight 77 = .ok (.bipush (-7), 2) := by decide +kernel
theorem dX4_byWeight_79 : decode cX4_byWeight 79 = .ok (.bipush 7, 2) := by decide +kernel
theorem dX4_byWeight_81 : decode cX4_byWeight 81 = .ok (.iload_n 1, 1) := by decide +kernel
theorem dX4_byWeight_82 : decode cX4_byWeight 82 = .ok (.ifCond .ge 7, 3) := by decide +kernel
theorem dX4_byWeight_85 : decode cX4_byWeight 85 = .ok (.iconst 1, 1) := by decide +kernel
theorem dX4_byWeight_86 : decode cX4_byWeight 86 = .ok (.goto 4, 3) := by decide +kernel
theorem dX4_byWeight_89 : decode cX4_byWeight 89 = .ok (.iconst 0, 1) := by decide +kernel
theorem dX4_byWeight_90 : decode cX4_byWeight 90 = .ok (.invokevirtual 110, 3) := by decide +kernel
theorem dX4_byWeight_93 : decode cX4_byWeight 93 = .ok (.goto 4, 3) := by decide +kernel
theorem dX4_byWeight_96 : decode cX4_byWeight 96 = .ok (.iload_n 2, 1) := by decide +kernel
theorem dX4_byWeight_97 : decode cX4_byWeight 97 = .ok (.invokevirtual 114, 3) := by decide +kernel
theorem dX4_byWeight_100 : decode cX4_byWeight 100 = .ok (.istore 4, 2) := by decide +kernel
theorem dX4_byWeight_102 : decode cX4_byWeight 102 = .ok (.return_, 1) := by decide +kernel
theorem dX4_choose_0 : decode cX4_choose 0 = .ok (.aload_n 0, 1) := by decide +kernel
theorem dX4_choose_1 : decode cX4_choose 1 = .ok (.getfield 33, 3) := by decide +kernel
theorem dX4_choose_4 : decode cX4_choose 4 = .ok (.iload_n 1, 1) := by decide +kernel
theorem dX4_choose_5 : decode cX4_choose 5 = .ok (.iaload, 1) := by decide +kernel
theorem dX4_choose_6 : decode cX4_choose 6 = .ok (.ifCond .ge 7, 3) := by decide +kernel
theorem dX4_choose_9 : decode cX4_choose 9 = .ok (.iconst (-1), 1) := by decide +kernel
theorem dX4_choose_10 : decode cX4_choose 10 = .ok (.goto 13, 3) := by decide +kernel
theorem dX4_choose_13 : decode cX4_choose 13 = .ok (.aload_n 0, 1) := by decide +kernel
theorem dX4_choose_14 : decode cX4_choose 14 = .ok (.aload_n 0, 1) := by decide +kernel
theorem dX4_choose_15 : decode cX4_choose 15 = .ok (.getfield 33, 3) := by decide +kernel
theorem dX4_choose_18 : decode cX4_choose 18 = .ok (.iload_n 1, 1) := by decide +kernel
theorem dX4_choose_19 : decode cX4_choose 19 = .ok (.iaload, 1) := by decide +kernel
theorem dX4_choose_20 : decode cX4_choose 20 = .ok (.invokevirtual 86, 3) := by decide +kernel
theorem dX4_choose_23 : decode cX4_choose 23 = .ok (.istore_n 2, 1) := by decide +kernel
theorem dX4_choose_24 : decode cX4_choose 24 = .ok (.iload_n 2, 1) := by decide +kernel
theorem dX4_choose_25 : decode cX4_choose 25 = .ok (.ifCond .ge 10, 3) := by decide +kernel
theorem dX4_choose_28 : decode cX4_choose 28 = .ok (.aload_n 0, 1) := by decide +kernel
theorem dX4_choose_29 : decode cX4_choose 29 = .ok (.getfield 66, 3) := by decide +kernel
theorem dX4_choose_32 : decode cX4_choose 32 = .ok (.ifCond .ne 5, 3) := by decide +kernel
theorem dX4_choose_35 : decode cX4_choose 35 = .ok (.iload_n 2, 1) := by decide +kernel
theorem dX4_choose_36 : decode cX4_choose 36 = .ok (.ireturn, 1) := by decide +kernel
theorem dX4_choose_37 : decode cX4_choose 37 = .ok (.iconst 0, 1) := by decide +kernel
theorem dX4_choose_38 : decode cX4_choose 38 = .ok (.istore_n 3, 1) := by decide +kernel
theorem dX4_choose_39 : decode cX4_choose 39 = .ok (.iload_n 3, 1) := by decide +kernel
theorem dX4_choose_40 : decode cX4_choose 40 = .ok (.aload_n 0, 1) := by decide +kernel
theorem dX4_choose_41 : decode cX4_choose 41 = .ok (.getfield 66, 3) := by decide +kernel
theorem dX4_choose_44 : decode cX4_choose 44 = .ok (.if_icmp .ge 16, 3) := by decide +kernel
theorem dX4_choose_47 : decode cX4_choose 47 = .ok (.aload_n 0, 1) := by decide +kernel
theorem dX4_choose_48 : decode cX4_choose 48 = .ok (.getfield 42, 3) := by decide +kernel
theorem dX4_choose_51 : decode cX4_choose 51 = .ok (.iload_n 3, 1) := by decide +kernel
theorem dX4_choose_52 : decode cX4_choose 52 = .ok (.iconst 1, 1) := by decide +kernel
theorem dX4_choose_53 : decode cX4_choose 53 = .ok (.bastore, 1) := by decide +kernel
theorem dX4_choose_54 : decode cX4_choose 54 = .ok (.iinc 3 1, 3) := by decide +kernel
theorem dX4_choose_57 : decode cX4_choose 57 = .ok (.goto (-18), 3) := by decide +kernel
theorem dX4_choose_60 : decode cX4_choose 60 = .ok (.bipush 7, 2) := by decide +kernel
theorem dX4_choose_62 : decode cX4_choose 62 = .ok (.iload_n 1, 1) := by decide +kernel
theorem dX4_choose_63 : decode cX4_choose 63 = .ok (.imul, 1) := by decide +kernel
theorem dX4_choose_64 : decode cX4_choose 64 = .ok (.istore_n 3, 1) := by decide +kernel
theorem dX4_choose_65 : decode cX4_choose 65 = .ok (.aload_n 0, 1) := by decide +kernel
theorem dX4_choose_66 : decode cX4_choose 66 = .ok (.iconst 0, 1) := by decide +kernel
theorem dX4_choose_67 : decode cX4_choose 67 = .ok (.aload_n 0, 1) := by decide +kernel
theorem dX4_choose_68 : decode cX4_choose 68 = .ok (.getfield 30, 3) := by decide +kernel
theorem dX4_choose_71 : decode cX4_choose 71 = .ok (.iload_n 3, 1) := by decide +kernel
theorem dX4_choose_72 : decode cX4_choose 72 = .ok (.iaload, 1) := by decide +kernel
theorem dX4_choose_73 : decode cX4_choose 73 = .ok (.invokevirtual 114, 3) := by decide +kernel
theorem dX4_choose_76 : decode cX4_choose 76 = .ok (.ifCond .ne 14, 3) := by decide +kernel
theorem dX4_choose_79 : decode cX4_choose 79 = .ok (.aload_n 0, 1) := by decide +kernel
theorem dX4_choose_80 : decode cX4_choose 80 = .ok (.iconst 0, 1) := by decide +kernel
theorem dX4_choose_81 : decode cX4_choose 81 = .ok (.sipush 277, 3) := by decide +kernel
theorem dX4_choose_84 : decode cX4_choose 84 = .ok (.invokevirtual 114, 3) := by decide +kernel
theorem dX4_choose_87 : decode cX4_choose 87 = .ok (.ifCond .eq 7, 3) := by decide +kernel
theorem dX4_choose_90 : decode cX4_choose 90 = .ok (.iconst 1, 1) := by decide +kernel
theorem dX4_choose_91 : decode cX4_choose 91 = .ok (.goto 4, 3) := by decide +kernel
theorem dX4_choose_94 : decode cX4_choose 94 = .ok (.iconst 0, 1) := by decide +kernel
theorem dX4_choose_95 : decode cX4_choose 95 = .ok (.istore 4, 2) := by decide +kernel
theorem dX4_choose_97 : decode cX4_choose 97 = .ok (.aload_n 0, 1) := by decide +kernel
theorem dX4_choose_98 : decode cX4_choose 98 = .ok (.iconst 1, 1) := by decide +kernel
theorem dX4_choose_99 : decode cX4_choose 99 = .ok (.aload_n 0, 1) := by decide +kernel
theorem dX4_choose_100 : decode cX4_choose 100 = .ok (.getfield 30, 3) := by decide +kernel
theorem dX4_choose_103 : decode cX4_choose 103 = .ok (.iload_n 3, 1) := by decide +kernel
theorem dX4_choose_104 : decode cX4_choose 104 = .ok (.iconst 1, 1) := by decide +kernel
theorem dX4_choose_105 : decode cX4_choose 105 = .ok (.iadd, 1) := by decide +kernel
theorem dX4_choose_106 : decode cX4_choose 106 = .ok (.iaload, 1) := by decide +kernel
theorem dX4_choose_107 : decode cX4_choose 107 = .ok (.invokevirtual 114, 3) := by decide +kernel
theorem dX4_choose_110 : decode cX4_choose 110 = .ok (.istore 4, 2) := by decide +kernel
theorem dX4_choose_112 : decode cX4_choose 112 = .ok (.aload_n 0, 1) := by decide +kernel
theorem dX4_choose_113 : decode cX4_choose 113 = .ok (.getfield 30, 3) := by decide +kernel
theorem dX4_choose_116 : decode cX4_choose 116 = .ok (.iload_n 3, 1) := by decide +kernel
theorem dX4_choose_117 : decode cX4_choose 117 = .ok (.iconst 1, 1) := by decide +kernel
theorem dX4_choose_118 : decode cX4_choose 118 = .ok (.iadd, 1) := by decide +kernel
theorem dX4_choose_119 : decode cX4_choose 119 = .ok (.iaload, 1) := by decide +kernel
theorem dX4_choose_120 : decode cX4_choose 120 = .ok (.ifCond .ne 15, 3) := by decide +kernel
theorem dX4_choose_123 : decode cX4_choose 123 = .ok (.aload_n 0, 1) := by decide +kernel
theorem dX4_choose_124 : decode cX4_choose 124 = .ok (.aload_n 0, 1) := by decide +kernel
theorem dX4_choose_125 : decode cX4_choose 125 = .ok (.getfield 30, 3) := by decide +kernel
theorem dX4_choose_128 : decode cX4_choose 128 = .ok (.iload_n 3, 1) := by decide +kernel
theorem dX4_choose_129 : decode cX4_choose 129 = .ok (.iconst 2, 1) := by decide +kernel
theorem dX4_choose_130 : decode cX4_choose 130 = .ok (.iadd, 1) := by decide +kernel
theorem dX4_choose_131 : decode cX4_choose 131 = .ok (.iaload, 1) := by decide +kernel
theorem dX4_choose_132 : decode cX4_choose 132 = .ok (.invokevirtual 117, 3) := by decide +kernel
theorem dX4_choose_135 : decode cX4_choose 135 = .ok (.aload_n 0, 1) := by decide +kernel
theorem dX4_choose_136 : decode cX4_choose 136 = .ok (.aload_n 0, 1) := by decide +kernel
theorem dX4_choose_137 : decode cX4_choose 137 = .ok (.getfield 30, 3) := by decide +kernel
theorem dX4_choose_140 : decode cX4_choose 140 = .ok (.iload_n 3, 1) := by decide +kernel
theorem dX4_choose_141 : decode cX4_choose 141 = .ok (.iconst 3, 1) := by decide +kernel
theorem dX4_choose_142 : decode cX4_choose 142 = .ok (.iadd, 1) := by decide +kernel
theorem dX4_choose_143 : decode cX4_choose 143 = .ok (.iaload, 1) := by decide +kernel
theorem dX4_choose_144 : decode cX4_choose 144 = .ok (.invokevirtual 120, 3) := by decide +kernel
theorem dX4_choose_147 : decode cX4_choose 147 = .ok (.aload_n 0, 1) := by decide +kernel
theorem dX4_choose_148 : decode cX4_choose 148 = .ok (.iconst 4, 1) := by decide +kernel
theorem dX4_choose_149 : decode cX4_choose 149 = .ok (.aload_n 0, 1) := by decide +kernel
theorem dX4_choose_150 : decode cX4_choose 150 = .ok (.getfield 30, 3) := by decide +kernel
theorem dX4_choose_153 : decode cX4_choose 153 = .ok (.iload_n 3, 1) := by decide +kernel
theorem dX4_choose_154 : decode cX4_choose 154 = .ok (.iconst 4, 1) := by decide +kernel
theorem dX4_choose_155 : decode cX4_choose 155 = .ok (.iadd, 1) := by decide +kernel
theorem dX4_choose_156 : decode cX4_choose 156 = .ok (.iaload, 1) := by decide +kernel
theorem dX4_choose_157 : decode cX4_choose 157 = .ok (.invokevirtual 114, 3) := by decide +kernel
theorem dX4_choose_160 : decode cX4_choose 160 = .ok (.istore 4, 2) := by decide +kernel
theorem dX4_choose_162 : decode cX4_choose 162 = .ok (.aload_n 0, 1) := by decide +kernel
theorem dX4_choose_163 : decode cX4_choose 163 = .ok (.aload_n 0, 1) := by decide +kernel
theorem dX4_choose_164 : decode cX4_choose 164 = .ok (.getfield 30, 3) := by decide +kernel
theorem dX4_choose_167 : decode cX4_choose 167 = .ok (.iload_n 3, 1) := by decide +kernel
theorem dX4_choose_168 : decode cX4_choose 168 = .ok (.iconst 5, 1) := by decide +kernel
theorem dX4_choose_169 : decode cX4_choose 169 = .ok (.iadd, 1) := by decide +kernel
theorem dX4_choose_170 : decode cX4_choose 170 = .ok (.iaload, 1) := by decide +kernel
theorem dX4_choose_171 : decode cX4_choose 171 = .ok (.invokevirtual 123, 3) := by decide +kernel
theorem dX4_choose_174 : decode cX4_choose 174 = .ok (.aload_n 0, 1) := by decide +kernel
theorem dX4_choose_175 : decode cX4_choose 175 = .ok (.bipush 6, 2) := by decide +kernel
theorem dX4_choose_177 : decode cX4_choose 177 = .ok (.aload_n 0, 1) := by decide +kernel
theorem dX4_choose_178 : decode cX4_choose 178 = .ok (.getfield 30, 3) := by decide +kernel
theorem dX4_choose_181 : decode cX4_choose 181 = .ok (.iload_n 3, 1) := by decide +kernel
theorem dX4_choose_182 : decode cX4_choose 182 = .ok (.bipush 6, 2) := by decide +kernel
theorem dX4_choose_184 : decode cX4_choose 184 = .ok (.iadd, 1) := by decide +kernel
theorem dX4_choose_185 : decode cX4_choose 185 = .ok (.iaload, 1) := by decide +kernel
theorem dX4_choose_186 : decode cX4_choose 186 = .ok (.invokevirtual 114, 3) := by decide +kernel
theorem dX4_choose_189 : decode cX4_choose 189 = .ok (.istore 4, 2) := by decide +kernel
theorem dX4_choose_191 : decode cX4_choose 191 = .ok (.iconst (-1), 1) := by decide +kernel
theorem dX4_choose_192 : decode cX4_choose 192 = .ok (.istore 5, 2) := by decide +kernel
theorem dX4_choose_194 : decode cX4_choose 194 = .ok (.iconst (-1), 1) := by decide +kernel
theorem dX4_choose_195 : decode cX4_choose 195 = .ok (.istore 6, 2) := by decide +kernel
theorem dX4_choose_197 : decode cX4_choose 197 = .ok (.iconst 0, 1) := by decide +kernel
theorem dX4_choose_198 : decode cX4_choose 198 = .ok (.istore 7, 2) := by decide +kernel
theorem dX4_choose_200 : decode cX4_choose 200 = .ok (.iload 7, 2) := by decide +kernel
theorem dX4_choose_202 : decode cX4_choose 202 = .ok (.aload_n 0, 1) := by decide +kernel
theorem dX4_choose_203 : decode cX4_choose 203 = .ok (.getfield 66, 3) := by decide +kernel
theorem dX4_choose_206 : decode cX4_choose 206 = .ok (.if_icmp .ge 57, 3) := by decide +kernel
theorem dX4_choose_209 : decode cX4_choose 209 = .ok (.aload_n 0, 1) := by decide +kernel
theorem dX4_choose_210 : decode cX4_choose 210 = .ok (.getfield 42, 3) := by decide +kernel
theorem dX4_choose_213 : decode cX4_choose 213 = .ok (.iload 7, 2) := by decide +kernel
theorem dX4_choose_215 : decode cX4_choose 215 = .ok (.baload, 1) := by decide +kernel
theorem dX4_choose_216 : decode cX4_choose 216 = .ok (.ifCond .eq 8, 3) := by decide +kernel
theorem dX4_choose_219 : decode cX4_choose 219 = .ok (.iload 7, 2) := by decide +kernel
theorem dX4_choose_221 : decode cX4_choose 221 = .ok (.goto 5, 3) := by decide +kernel
theorem dX4_choose_224 : decode cX4_choose 224 = .ok (.iload 5, 2) := by decide +kernel
theorem dX4_choose_226 : decode cX4_choose 226 = .ok (.istore 5, 2) := by decide +kernel
theorem dX4_choose_228 : decode cX4_choose 228 = .ok (.aload_n 0, 1) := by decide +kernel
theorem dX4_choose_229 : decode cX4_choose 229 = .ok (.getfield 42, 3) := by decide +kernel
theorem dX4_choose_232 : decode cX4_choose 232 = .ok (.iload 7, 2) := by decide +kernel
theorem dX4_choose_234 : decode cX4_choose 234 = .ok (.baload, 1) := by decide +kernel
theorem dX4_choose_235 : decode cX4_choose 235 = .ok (.ifCond .eq 18, 3) := by decide +kernel
theorem dX4_choose_238 : decode cX4_choose 238 = .ok (.aload_n 0, 1) := by decide +kernel
theorem dX4_choose_239 : decode cX4_choose 239 = .ok (.getfield 16, 3) := by decide +kernel
theorem dX4_choose_242 : decode cX4_choose 242 = .ok (.iload 7, 2) := by decide +kernel
theorem dX4_choose_244 : decode cX4_choose 244 = .ok (.baload, 1) := by decide +kernel
theorem dX4_choose_245 : decode cX4_choose 245 = .ok (.ifCond .ne 8, 3) := by decide +kernel
theorem dX4_choose_248 : decode cX4_choose 248 = .ok (.iload 7, 2) := by decide +kernel
theorem dX4_choose_250 : decode cX4_choose 250 = .ok (.goto 5, 3) := by decide +kernel
theorem dX4_choose_253 : decode cX4_choose 253 = .ok (.iload 6, 2) := by decide +kernel
theorem dX4_choose_255 : decode cX4_choose 255 = .ok (.istore 6, 2) := by decide +kernel
theorem dX4_choose_257 : decode cX4_choose 257 = .ok (.iinc 7 1, 3) := by decide +kernel
theorem dX4_choose_260 : decode cX4_choose 260 = .ok (.goto (-60), 3) := by decide +kernel
theorem dX4_choose_263 : decode cX4_choose 263 = .ok (.iload 6, 2) := by decide +kernel
theorem dX4_choose_265 : decode cX4_choose 265 = .ok (.ifCond .ge 8, 3) := by decide +kernel
theorem dX4_choose_268 : decode cX4_choose 268 = .ok (.iload 5, 2) := by decide +kernel
theorem dX4_choose_270 : decode cX4_choose 270 = .ok (.goto 5, 3) := by decide +kernel
theorem dX4_choose_273 : decode cX4_choose 273 = .ok (.iload 6, 2) := by decide +kernel
theorem dX4_choose_275 : decode cX4_choose 275 = .ok (.ireturn, 1) := by decide +kernel
theorem dX4_chosen_0 : decode cX4_chosen 0 = .ok (.aload_n 0, 1) := by decide +kernel
theorem dX4_chosen_1 : decode cX4_chosen 1 = .ok (.iconst 0, 1) := by decide +kernel
theorem dX4_chosen_2 : decode cX4_chosen 2 = .ok (.putfield 45, 3) := by decide +kernel
theorem dX4_chosen_5 : decode cX4_chosen 5 = .ok (.iload_n 1, 1) := by decide +kernel
theorem dX4_chosen_6 : decode cX4_chosen 6 = .ok (.ifCond .eq 10, 3) := by decide +kernel
theorem dX4_chosen_9 : decode cX4_chosen 9 = .ok (.iload_n 1, 1) := by decide +kernel
theorem dX4_chosen_10 : decode cX4_chosen 10 = .ok (.iconst 1, 1) := by decide +kernel
theorem dX4_chosen_11 : decode cX4_chosen 11 = .ok (.if_icmp .eq 5, 3) := by decide +kernel
theorem dX4_chosen_14 : decode cX4_chosen 14 = .ok (.iconst (-1), 1) := by decide +kernel
theorem dX4_chosen_15 : decode cX4_chosen 15 = .ok (.ireturn, 1) := by decide +kernel
theorem dX4_chosen_16 : decode cX4_chosen 16 = .ok (.aload_n 0, 1) := by decide +kernel
theorem dX4_chosen_17 : decode cX4_chosen 17 = .ok (.iload_n 1, 1) := by decide +kernel
theorem dX4_chosen_18 : decode cX4_chosen 18 = .ok (.invokevirtual 126, 3) := by decide +kernel
theorem dX4_chosen_21 : decode cX4_chosen 21 = .ok (.istore_n 2, 1) := by decide +kernel
theorem dX4_chosen_22 : decode cX4_chosen 22 = .ok (.iload_n 2, 1) := by decide +kernel
theorem dX4_chosen_23 : decode cX4_chosen 23 = .ok (.ifCond .ge 7, 3) := by decide +kernel
theorem dX4_chosen_26 : decode cX4_chosen 26 = .ok (.iconst (-1), 1) := by decide +kernel
theorem dX4_chosen_27 : decode cX4_chosen 27 = .ok (.goto 9, 3) := by decide +kernel
theorem dX4_chosen_30 : decode cX4_chosen 30 = .ok (.aload_n 0, 1) := by decide +kernel
theorem dX4_chosen_31 : decode cX4_chosen 31 = .ok (.getfield 7, 3) := by decide +kernel
theorem dX4_chosen_34 : decode cX4_chosen 34 = .ok (.iload_n 2, 1) := by decide +kernel
theorem dX4_chosen_35 : decode cX4_chosen 35 = .ok (.iaload, 1) := by decide +kernel
theorem dX4_chosen_36 : decode cX4_chosen 36 = .ok (.ireturn, 1) := by decide +kernel
theorem dX4_font_0 : decode cX4_font 0 = .ok (.aload_n 0, 1) := by decide +kernel
theorem dX4_font_1 : decode cX4_font 1 = .ok (.iload_n 1, 1) := by decide +kernel
theorem dX4_font_2 : decode cX4_font 2 = .ok (.ifCond .lt 21, 3) := by decide +kernel
theorem dX4_font_5 : decode cX4_font 5 = .ok (.iload_n 1, 1) := by decide +kernel
theorem dX4_font_6 : decode cX4_font 6 = .ok (.aload_n 0, 1) := by decide +kernel
theorem dX4_font_7 : decode cX4_font 7 = .ok (.getfield 66, 3) := by decide +kernel
theorem dX4_font_10 : decode cX4_font 10 = .ok (.if_icmp .ge 13, 3) := by decide +kernel
theorem dX4_font_13 : decode cX4_font 13 = .ok (.iload_n 2, 1) := by decide +kernel
theorem dX4_font_14 : decode cX4_font 14 = .ok (.ifCond .lt 9, 3) := by decide +kernel
theorem dX4_font_17 : decode cX4_font 17 = .ok (.iload_n 2, 1) := by decide +kernel
theorem dX4_font_18 : decode cX4_font 18 = .ok (.bipush 9, 2) := by decide +kernel
theorem dX4_font_20 : decode cX4_font 20 = .ok (.if_icmp .le 7, 3) := by decide +kernel
theorem dX4_font_23 : decode cX4_font 23 = .ok (.iconst 1, 1) := by decide +kernel
theorem dX4_font_24 : decode cX4_font 24 = .ok (.goto 4, 3) := by decide +kernel
theorem dX4_font_27 : decode cX4_font 27 = .ok (.iconst 0, 1) := by decide +kernel
theorem dX4_font_28 : decode cX4_font 28 = .ok (.putfield 45, 3) := by decide +kernel
theorem dX4_font_31 : decode cX4_font 31 = .ok (.aload_n 0, 1) := by decide +kernel
theorem dX4_font_32 : decode cX4_font 32 = .ok (.getfield 45, 3) := by decide +kernel
theorem dX4_font_35 : decode cX4_font 35 = .ok (.ifCond .le 5, 3) := by decide +kernel
theorem dX4_font_38 : decode cX4_font 38 = .ok (.iconst 0, 1) := by decide +kernel
theorem dX4_font_39 : decode cX4_font 39 = .ok (.ireturn, 1) := by decide +kernel
theorem dX4_font_40 : decode cX4_font 40 = .ok (.iload_n 2, 1) := by decide +kernel
theorem dX4_font_41 : decode cX4_font 41 = .ok (.bipush 7, 2) := by decide +kernel
theorem dX4_font_43 : decode cX4_font 43 = .ok (.if_icmp .ge 17, 3) := by decide +kernel
theorem dX4_font_46 : decode cX4_font 46 = .ok (.aload_n 0, 1) := by decide +kernel
theorem dX4_font_47 : decode cX4_font 47 = .ok (.getfield 13, 3) := by decide +kernel
theorem dX4_font_50 : decode cX4_font 50 = .ok (.bipush 7, 2) := by decide +kernel
theorem dX4_font_52 : decode cX4_font 52 = .ok (.iload_n 1, 1) := by decide +kernel
theorem dX4_font_53 : decode cX4_font 53 = .ok (.imul, 1) := by decide +kernel
theorem dX4_font_54 : decode cX4_font 54 = .ok (.iload_n 2, 1) := by decide +kernel
theorem dX4_font_55 : decode cX4_font 55 = .ok (.iadd, 1) := by decide +kernel
theorem dX4_font_56 : decode cX4_font 56 = .ok (.iaload, 1) := by decide +kernel
theorem dX4_font_57 : decode cX4_font 57 = .ok (.goto 51, 3) := by decide +kernel
theorem dX4_font_60 : decode cX4_font 60 = .ok (.iload_n 2, 1) := by decide +kernel
theorem dX4_font_61 : decode cX4_font 61 = .ok (.bipush 7, 2) := by decide +kernel
theorem dX4_font_63 : decode cX4_font 63 = .ok (.if_icmp .ne 12, 3) := by decide +kernel
theorem dX4_font_66 : decode cX4_font 66 = .ok (.aload_n 0, 1) := by decide +kernel
theorem dX4_font_67 : decode cX4_font 67 = .ok (.getfield 7, 3) := by decide +kernel
theorem dX4_font_70 : decode cX4_font 70 = .ok (.iload_n 1, 1) := by decide +kernel
theorem dX4_font_71 : decode cX4_font 71 = .ok (.iaload, 1) := by decide +kernel
theorem dX4_font_72 : decode cX4_font 72 = .ok (.goto 36, 3) := by decide +kernel
theorem dX4_font_75 : decode cX4_font 75 = .ok (.iload_n 2, 1) := by decide +kernel
theorem dX4_font_76 : decode cX4_font 76 = .ok (.bipush 8, 2) := by decide +kernel
theorem dX4_font_78 : decode cX4_font 78 = .ok (.if_icmp .ne 20, 3) := by decide +kernel
theorem dX4_font_81 : decode cX4_font 81 = .ok (.aload_n 0, 1) := by decide +kernel
theorem dX4_font_82 : decode cX4_font 82 = .ok (.getfield 16, 3) := by decide +kernel
theorem dX4_font_85 : decode cX4_font 85 = .ok (.iload_n 1, 1) := by decide +kernel
theorem dX4_font_86 : decode cX4_font 86 = .ok (.baload, 1) := by decide +kernel
theorem dX4_font_87 : decode cX4_font 87 = .ok (.ifCond .eq 7, 3) := by decide +kernel
theorem dX4_font_90 : decode cX4_font 90 = .ok (.iconst 1, 1) := by decide +kernel
theorem dX4_font_91 : decode cX4_font 91 = .ok (.goto 17, 3) := by decide +kernel
theorem dX4_font_94 : decode cX4_font 94 = .ok (.iconst 0, 1) := by decide +kernel
theorem dX4_font_95 : decode cX4_font 95 = .ok (.goto 13, 3) := by decide +kernel
theorem dX4_font_98 : decode cX4_font 98 = .ok (.aload_n 0, 1) := by decide +kernel
theorem dX4_font_99 : decode cX4_font 99 = .ok (.aload_n 0, 1) := by decide +kernel
theorem dX4_font_100 : decode cX4_font 100 = .ok (.getfield 7, 3) := by decide +kernel
theorem dX4_font_103 : decode cX4_font 103 = .ok (.iload_n 1, 1) := by decide +kernel
theorem dX4_font_104 : decode cX4_font 104 = .ok (.iaload, 1) := by decide +kernel
theorem dX4_font_105 : decode cX4_font 105 = .ok (.invokevirtual 107, 3) := by decide +kernel
theorem dX4_font_108 : decode cX4_font 108 = .ok (.ireturn, 1) := by decide +kernel
theorem dX4_chosenGlyph_0 : decode cX4_chosenGlyph 0 = .ok (.aload_n 0, 1) := by decide +kernel
theorem dX4_chosenGlyph_1 : decode cX4_chosenGlyph 1 = .ok (.iload_n 1, 1) := by decide +kernel
theorem dX4_chosenGlyph_2 : decode cX4_chosenGlyph 2 = .ok (.invokevirtual 126, 3) := by decide +kernel
theorem dX4_chosenGlyph_5 : decode cX4_chosenGlyph 5 = .ok (.istore_n 3, 1) := by decide +kernel
theorem dX4_chosenGlyph_6 : decode cX4_chosenGlyph 6 = .ok (.iload_n 3, 1) := by decide +kernel
theorem dX4_chosenGlyph_7 : decode cX4_chosenGlyph 7 = .ok (.ifCond .ge 7, 3) := by decide +kernel
theorem dX4_chosenGlyph_10 : decode cX4_chosenGlyph 10 = .ok (.iconst (-1), 1) := by decide +kernel
theorem dX4_chosenGlyph_11 : decode cX4_chosenGlyph 11 = .ok (.goto 14, 3) := by decide +kernel
theorem dX4_chosenGlyph_14 : decode cX4_chosenGlyph 14 = .ok (.aload_n 0, 1) := by decide +kernel
theorem dX4_chosenGlyph_15 : decode cX4_chosenGlyph 15 = .ok (.aload_n 0, 1) := by decide +kernel
theorem dX4_chosenGlyph_16 : decode cX4_chosenGlyph 16 = .ok (.getfield 7, 3) := by decide +kernel
theorem dX4_chosenGlyph_19 : decode cX4_chosenGlyph 19 = .ok (.iload_n 3, 1) := by decide +kernel
theorem dX4_chosenGlyph_20 : decode cX4_chosenGlyph 20 = .ok (.iaload, 1) := by decide +kernel
theorem dX4_chosenGlyph_21 : decode cX4_chosenGlyph 21 = .ok (.iload_n 2, 1) := by decide +kernel
theorem dX4_chosenGlyph_22 : decode cX4_chosenGlyph 22 = .ok (.invokevirtual 100, 3) := by decide +kernel
theorem dX4_chosenGlyph_25 : decode cX4_chosenGlyph 25 = .ok (.ireturn, 1) := by decide +kernel
theorem dX4_isBlack_0 : decode cX4_isBlack 0 = .ok (.aload_n 0, 1) := by decide +kernel
theorem dX4_isBlack_1 : decode cX4_isBlack 1 = .ok (.getfield 20, 3) := by decide +kernel
theorem dX4_isBlack_4 : decode cX4_isBlack 4 = .ok (.bipush 7, 2) := by decide +kernel
theorem dX4_isBlack_6 : decode cX4_isBlack 6 = .ok (.iload_n 1, 1) := by decide +kernel
theorem dX4_isBlack_7 : decode cX4_isBlack 7 = .ok (.imul, 1) := by decide +kernel
theorem dX4_isBlack_8 : decode cX4_isBlack 8 = .ok (.iconst 4, 1) := by decide +kernel
theorem dX4_isBlack_9 : decode cX4_isBlack 9 = .ok (.iadd, 1) := by decide +kernel
theorem dX4_isBlack_10 : decode cX4_isBlack 10 = .ok (.iaload, 1) := by decide +kernel
theorem dX4_isBlack_11 : decode cX4_isBlack 11 = .ok (.bipush 7, 2) := by decide +kernel
theorem dX4_isBlack_13 : decode cX4_isBlack 13 = .ok (.iadd, 1) := by decide +kernel
theorem dX4_isBlack_14 : decode cX4_isBlack 14 = .ok (.bipush 8, 2) := by decide +kernel
theorem dX4_isBlack_16 : decode cX4_isBlack 16 = .ok (.idiv, 1) := by decide +kernel
theorem dX4_isBlack_17 : decode cX4_isBlack 17 = .ok (.istore 4, 2) := by decide +kernel
theorem dX4_isBlack_19 : decode cX4_isBlack 19 = .ok (.aload_n 0, 1) := by decide +kernel
theorem dX4_isBlack_20 : decode cX4_isBlack 20 = .ok (.getfield 23, 3) := by decide +kernel
theorem dX4_isBlack_23 : decode cX4_isBlack 23 = .ok (.aload_n 0, 1) := by decide +kernel
theorem dX4_isBlack_24 : decode cX4_isBlack 24 = .ok (.iload_n 1, 1) := by decide +kernel
theorem dX4_isBlack_25 : decode cX4_isBlack 25 = .ok (.invokevirtual 76, 3) := by decide +kernel
theorem dX4_isBlack_28 : decode cX4_isBlack 28 = .ok (.iload 4, 2) := by decide +kernel
theorem dX4_isBlack_30 : decode cX4_isBlack 30 = .ok (.iload_n 3, 1) := by decide +kernel
theorem dX4_isBlack_31 : decode cX4_isBlack 31 = .ok (.imul, 1) := by decide +kernel
theorem dX4_isBlack_32 : decode cX4_isBlack 32 = .ok (.iadd, 1) := by decide +kernel
theorem dX4_isBlack_33 : decode cX4_isBlack 33 = .ok (.iload_n 2, 1) := by decide +kernel
theorem dX4_isBlack_34 : decode cX4_isBlack 34 = .ok (.bipush 8, 2) := by decide +kernel
theorem dX4_isBlack_36 : decode cX4_isBlack 36 = .ok (.idiv, 1) := by decide +kernel
theorem dX4_isBlack_37 : decode cX4_isBlack 37 = .ok (.iadd, 1) := by decide +kernel
theorem dX4_isBlack_38 : decode cX4_isBlack 38 = .ok (.baload, 1) := by decide +kernel
theorem dX4_isBlack_39 : decode cX4_isBlack 39 = .ok (.bipush 7, 2) := by decide +kernel
theorem dX4_isBlack_41 : decode cX4_isBlack 41 = .ok (.iload_n 2, 1) := by decide +kernel
theorem dX4_isBlack_42 : decode cX4_isBlack 42 = .ok (.bipush 8, 2) := by decide +kernel
theorem dX4_isBlack_44 : decode cX4_isBlack 44 = .ok (.irem, 1) := by decide +kernel
theorem dX4_isBlack_45 : decode cX4_isBlack 45 = .ok (.isub, 1) := by decide +kernel
theorem dX4_isBlack_46 : decode cX4_isBlack 46 = .ok (.ishr, 1) := by decide +kernel
theorem dX4_isBlack_47 : decode cX4_isBlack 47 = .ok (.iconst 1, 1) := by decide +kernel
theorem dX4_isBlack_48 : decode cX4_isBlack 48 = .ok (.iand, 1) := by decide +kernel
theorem dX4_isBlack_49 : decode cX4_isBlack 49 = .ok (.iconst 1, 1) := by decide +kernel
theorem dX4_isBlack_50 : decode cX4_isBlack 50 = .ok (.if_icmp .ne 7, 3) := by decide +kernel
theorem dX4_isBlack_53 : decode cX4_isBlack 53 = .ok (.iconst 1, 1) := by decide +kernel
theorem dX4_isBlack_54 : decode cX4_isBlack 54 = .ok (.goto 4, 3) := by decide +kernel
theorem dX4_isBlack_57 : decode cX4_isBlack 57 = .ok (.iconst 0, 1) := by decide +kernel
theorem dX4_isBlack_58 : decode cX4_isBlack 58 = .ok (.ireturn, 1) := by decide +kernel
theorem dX4_of_0 : decode cX4_of 0 = .ok (.aload_n 0, 1) := by decide +kernel
theorem dX4_of_1 : decode cX4_of 1 = .ok (.iload_n 1, 1) := by decide +kernel
theorem dX4_of_2 : decode cX4_of 2 = .ok (.ifCond .eq 8, 3) := by decide +kernel
theorem dX4_of_5 : decode cX4_of 5 = .ok (.iload_n 1, 1) := by decide +kernel
theorem dX4_of_6 : decode cX4_of 6 = .ok (.iconst 1, 1) := by decide +kernel
theorem dX4_of_7 : decode cX4_of 7 = .ok (.if_icmp .ne 12, 3) := by decide +kernel
theorem dX4_of_10 : decode cX4_of 10 = .ok (.iload_n 3, 1) := by decide +kernel
theorem dX4_of_11 : decode cX4_of 11 = .ok (.ifCond .lt 8, 3) := by decide +kernel
theorem dX4_of_14 : decode cX4_of 14 = .ok (.iload_n 3, 1) := by decide +kernel
theorem dX4_of_15 : decode cX4_of 15 = .ok (.iconst 5, 1) := by decide +kernel
theorem dX4_of_16 : decode cX4_of 16 = .ok (.if_icmp .le 7, 3) := by decide +kernel
theorem dX4_of_19 : decode cX4_of 19 = .ok (.iconst 1, 1) := by decide +kernel
theorem dX4_of_20 : decode cX4_of 20 = .ok (.goto 4, 3) := by decide +kernel
theorem dX4_of_23 : decode cX4_of 23 = .ok (.iconst 0, 1) := by decide +kernel
theorem dX4_of_24 : decode cX4_of 24 = .ok (.putfield 45, 3) := by decide +kernel
theorem dX4_of_27 : decode cX4_of 27 = .ok (.aload_n 0, 1) := by decide +kernel
theorem dX4_of_28 : decode cX4_of 28 = .ok (.getfield 45, 3) := by decide +kernel
theorem dX4_of_31 : decode cX4_of 31 = .ok (.ifCond .le 5, 3) := by decide +kernel
theorem dX4_of_34 : decode cX4_of 34 = .ok (.iconst 0, 1) := by decide +kernel
theorem dX4_of_35 : decode cX4_of 35 = .ok (.ireturn, 1) := by decide +kernel
theorem dX4_of_36 : decode cX4_of 36 = .ok (.aload_n 0, 1) := by decide +kernel
theorem dX4_of_37 : decode cX4_of 37 = .ok (.iload_n 1, 1) := by decide +kernel
theorem dX4_of_38 : decode cX4_of 38 = .ok (.iload_n 2, 1) := by decide +kernel
theorem dX4_of_39 : decode cX4_of 39 = .ok (.invokevirtual 129, 3) := by decide +kernel
theorem dX4_of_42 : decode cX4_of 42 = .ok (.istore 4, 2) := by decide +kernel
theorem dX4_of_44 : decode cX4_of 44 = .ok (.aload_n 0, 1) := by decide +kernel
theorem dX4_of_45 : decode cX4_of 45 = .ok (.iload 4, 2) := by decide +kernel
theorem dX4_of_47 : decode cX4_of 47 = .ok (.ifCond .ge 7, 3) := by decide +kernel
theorem dX4_of_50 : decode cX4_of 50 = .ok (.iconst 2, 1) := by decide +kernel
theorem dX4_of_51 : decode cX4_of 51 = .ok (.goto 4, 3) := by decide +kernel
theorem dX4_of_54 : decode cX4_of 54 = .ok (.iconst 0, 1) := by decide +kernel
theorem dX4_of_55 : decode cX4_of 55 = .ok (.putfield 45, 3) := by decide +kernel
theorem dX4_of_58 : decode cX4_of 58 = .ok (.aload_n 0, 1) := by decide +kernel
theorem dX4_of_59 : decode cX4_of 59 = .ok (.getfield 45, 3) := by decide +kernel
theorem dX4_of_62 : decode cX4_of 62 = .ok (.ifCond .gt 8, 3) := by decide +kernel
theorem dX4_of_65 : decode cX4_of 65 = .ok (.iload_n 3, 1) := by decide +kernel
theorem dX4_of_66 : decode cX4_of 66 = .ok (.iconst 5, 1) := by decide +kernel
theorem dX4_of_67 : decode cX4_of 67 = .ok (.if_icmp .ge 29, 3) := by decide +kernel
theorem dX4_of_70 : decode cX4_of 70 = .ok (.aload_n 0, 1) := by decide +kernel
theorem dX4_of_71 : decode cX4_of 71 = .ok (.getfield 45, 3) := by decide +kernel
theorem dX4_of_74 : decode cX4_of 74 = .ok (.ifCond .le 7, 3) := by decide +kernel
theorem dX4_of_77 : decode cX4_of 77 = .ok (.iconst 0, 1) := by decide +kernel
theorem dX4_of_78 : decode cX4_of 78 = .ok (.goto 17, 3) := by decide +kernel
theorem dX4_of_81 : decode cX4_of 81 = .ok (.aload_n 0, 1) := by decide +kernel
theorem dX4_of_82 : decode cX4_of 82 = .ok (.getfield 20, 3) := by decide +kernel
theorem dX4_of_85 : decode cX4_of 85 = .ok (.bipush 7, 2) := by decide +kernel
theorem dX4_of_87 : decode cX4_of 87 = .ok (.iload 4, 2) := by decide +kernel
theorem dX4_of_89 : decode cX4_of 89 = .ok (.imul, 1) := by decide +kernel
theorem dX4_of_90 : decode cX4_of 90 = .ok (.iconst 2, 1) := by decide +kernel
theorem dX4_of_91 : decode cX4_of 91 = .ok (.iadd, 1) := by decide +kernel
theorem dX4_of_92 : decode cX4_of 92 = .ok (.iload_n 3, 1) := by decide +kernel
theorem dX4_of_93 : decode cX4_of 93 = .ok (.iadd, 1) := by decide +kernel
theorem dX4_of_94 : decode cX4_of 94 = .ok (.iaload, 1) := by decide +kernel
theorem dX4_of_95 : decode cX4_of 95 = .ok (.ireturn, 1) := by decide +kernel
theorem dX4_of_96 : decode cX4_of 96 = .ok (.iconst 0, 1) := by decide +kernel
theorem dX4_of_97 : decode cX4_of 97 = .ok (.istore 5, 2) := by decide +kernel
theorem dX4_of_99 : decode cX4_of 99 = .ok (.iconst 0, 1) := by decide +kernel
theorem dX4_of_100 : decode cX4_of 100 = .ok (.istore 6, 2) := by decide +kernel
theorem dX4_of_102 : decode cX4_of 102 = .ok (.iload 6, 2) := by decide +kernel
theorem dX4_of_104 : decode cX4_of 104 = .ok (.aload_n 0, 1) := by decide +kernel
theorem dX4_of_105 : decode cX4_of 105 = .ok (.getfield 20, 3) := by decide +kernel
theorem dX4_of_108 : decode cX4_of 108 = .ok (.bipush 7, 2) := by decide +kernel
theorem dX4_of_110 : decode cX4_of 110 = .ok (.iload 4, 2) := by decide +kernel
theorem dX4_of_112 : decode cX4_of 112 = .ok (.imul, 1) := by decide +kernel
theorem dX4_of_113 : decode cX4_of 113 = .ok (.iconst 5, 1) := by decide +kernel
theorem dX4_of_114 : decode cX4_of 114 = .ok (.iadd, 1) := by decide +kernel
theorem dX4_of_115 : decode cX4_of 115 = .ok (.iaload, 1) := by decide +kernel
theorem dX4_of_116 : decode cX4_of 116 = .ok (.if_icmp .ge 58, 3) := by decide +kernel
theorem dX4_of_119 : decode cX4_of 119 = .ok (.iconst 0, 1) := by decide +kernel
theorem dX4_of_120 : decode cX4_of 120 = .ok (.istore 7, 2) := by decide +kernel
theorem dX4_of_122 : decode cX4_of 122 = .ok (.iload 7, 2) := by decide +kernel
theorem dX4_of_124 : decode cX4_of 124 = .ok (.aload_n 0, 1) := by decide +kernel
theorem dX4_of_125 : decode cX4_of 125 = .ok (.getfield 20, 3) := by decide +kernel
theorem dX4_of_128 : decode cX4_of 128 = .ok (.bipush 7, 2) := by decide +kernel
theorem dX4_of_130 : decode cX4_of 130 = .ok (.iload 4, 2) := by decide +kernel
theorem dX4_of_132 : decode cX4_of 132 = .ok (.imul, 1) := by decide +kernel
theorem dX4_of_133 : decode cX4_of 133 = .ok (.iconst 4, 1) := by decide +kernel
theorem dX4_of_134 : decode cX4_of 134 = .ok (.iadd, 1) := by decide +kernel
theorem dX4_of_135 : decode cX4_of 135 = .ok (.iaload, 1) := by decide +kernel
theorem dX4_of_136 : decode cX4_of 136 = .ok (.if_icmp .ge 32, 3) := by decide +kernel
theorem dX4_of_139 : decode cX4_of 139 = .ok (.iload 5, 2) := by decide +kernel
theorem dX4_of_141 : decode cX4_of 141 = .ok (.aload_n 0, 1) := by decide +kernel
theorem dX4_of_142 : decode cX4_of 142 = .ok (.iload 4, 2) := by decide +kernel
theorem dX4_of_144 : decode cX4_of 144 = .ok (.iload 7, 2) := by decide +kernel
theorem dX4_of_146 : decode cX4_of 146 = .ok (.iload 6, 2) := by decide +kernel
theorem dX4_of_148 : decode cX4_of 148 = .ok (.invokevirtual 132, 3) := by decide +kernel
theorem dX4_of_151 : decode cX4_of 151 = .ok (.ifCond .eq 7, 3) := by decide +kernel
theorem dX4_of_154 : decode cX4_of 154 = .ok (.iconst 1, 1) := by decide +kernel
theorem dX4_of_155 : decode cX4_of 155 = .ok (.goto 4, 3) := by decide +kernel
theorem dX4_of_158 : decode cX4_of 158 = .ok (.iconst 0, 1) := by decide +kernel
theorem dX4_of_159 : decode cX4_of 159 = .ok (.iadd, 1) := by decide +kernel
theorem dX4_of_160 : decode cX4_of 160 = .ok (.istore 5, 2) := by decide +kernel
theorem dX4_of_162 : decode cX4_of 162 = .ok (.iinc 7 1, 3) := by decide +kernel
theorem dX4_of_165 : decode cX4_of 165 = .ok (.goto (-43), 3) := by decide +kernel
theorem dX4_of_168 : decode cX4_of 168 = .ok (.iinc 6 1, 3) := by decide +kernel
theorem dX4_of_171 : decode cX4_of 171 = .ok (.goto (-69), 3) := by decide +kernel
theorem dX4_of_174 : decode cX4_of 174 = .ok (.iload 5, 2) := by decide +kernel
theorem dX4_of_176 : decode cX4_of 176 = .ok (.ireturn, 1) := by decide +kernel
theorem dX4_row_0 : decode cX4_row 0 = .ok (.aload_n 0, 1) := by decide +kernel
theorem dX4_row_1 : decode cX4_row 1 = .ok (.iconst 0, 1) := by decide +kernel
theorem dX4_row_2 : decode cX4_row 2 = .ok (.putfield 45, 3) := by decide +kernel
theorem dX4_row_5 : decode cX4_row 5 = .ok (.iload_n 1, 1) := by decide +kernel
theorem dX4_row_6 : decode cX4_row 6 = .ok (.ifCond .eq 8, 3) := by decide +kernel
theorem dX4_row_9 : decode cX4_row 9 = .ok (.iload_n 1, 1) := by decide +kernel
theorem dX4_row_10 : decode cX4_row 10 = .ok (.iconst 1, 1) := by decide +kernel
theorem dX4_row_11 : decode cX4_row 11 = .ok (.if_icmp .ne 12, 3) := by decide +kernel
theorem dX4_row_14 : decode cX4_row 14 = .ok (.aload_n 0, 1) := by decide +kernel
theorem dX4_row_15 : decode cX4_row 15 = .ok (.iload_n 1, 1) := by decide +kernel
theorem dX4_row_16 : decode cX4_row 16 = .ok (.iload_n 2, 1) := by decide +kernel
theorem dX4_row_17 : decode cX4_row 17 = .ok (.invokevirtual 129, 3) := by decide +kernel
theorem dX4_row_20 : decode cX4_row 20 = .ok (.goto 4, 3) := by decide +kernel
theorem dX4_row_23 : decode cX4_row 23 = .ok (.iconst (-1), 1) := by decide +kernel
theorem dX4_row_24 : decode cX4_row 24 = .ok (.istore 5, 2) := by decide +kernel
theorem dX4_row_26 : decode cX4_row 26 = .ok (.iload 5, 2) := by decide +kernel
theorem dX4_row_28 : decode cX4_row 28 = .ok (.ifCond .ge 5, 3) := by decide +kernel
theorem dX4_row_31 : decode cX4_row 31 = .ok (.lconst 0, 1) := by decide +kernel
theorem dX4_row_32 : decode cX4_row 32 = .ok (.lreturn, 1) := by decide +kernel
theorem dX4_row_33 : decode cX4_row 33 = .ok (.iload_n 3, 1) := by decide +kernel
theorem dX4_row_34 : decode cX4_row 34 = .ok (.ifCond .lt 19, 3) := by decide +kernel
theorem dX4_row_37 : decode cX4_row 37 = .ok (.iload_n 3, 1) := by decide +kernel
theorem dX4_row_38 : decode cX4_row 38 = .ok (.aload_n 0, 1) := by decide +kernel
theorem dX4_row_39 : decode cX4_row 39 = .ok (.getfield 20, 3) := by decide +kernel
theorem dX4_row_42 : decode cX4_row 42 = .ok (.bipush 7, 2) := by decide +kernel
theorem dX4_row_44 : decode cX4_row 44 = .ok (.iload 5, 2) := by decide +kernel
theorem dX4_row_46 : decode cX4_row 46 = .ok (.imul, 1) := by decide +kernel
theorem dX4_row_47 : decode cX4_row 47 = .ok (.iconst 5, 1) := by decide +kernel
theorem dX4_row_48 : decode cX4_row 48 = .ok (.iadd, 1) := by decide +kernel
theorem dX4_row_49 : decode cX4_row 49 = .ok (.iaload, 1) := by decide +kernel
theorem dX4_row_50 : decode cX4_row 50 = .ok (.if_icmp .lt 5, 3) := by decide +kernel
theorem dX4_row_53 : decode cX4_row 53 = .ok (.lconst 0, 1) := by decide +kernel
theorem dX4_row_54 : decode cX4_row 54 = .ok (.lreturn, 1) := by decide +kernel
theorem dX4_row_55 : decode cX4_row 55 = .ok (.lconst 0, 1) := by decide +kernel
theorem dX4_row_56 : decode cX4_row 56 = .ok (.lstore 6, 2) := by decide +kernel
theorem dX4_row_58 : decode cX4_row 58 = .ok (.iconst 0, 1) := by decide +kernel
theorem dX4_row_59 : decode cX4_row 59 = .ok (.istore 8, 2) := by decide +kernel
theorem dX4_row_61 : decode cX4_row 61 = .ok (.iload 8, 2) := by decide +kernel
theorem dX4_row_63 : decode cX4_row 63 = .ok (.bipush 64, 2) := by decide +kernel
theorem dX4_row_65 : decode cX4_row 65 = .ok (.if_icmp .ge 94, 3) := by decide +kernel
theorem dX4_row_68 : decode cX4_row 68 = .ok (.iload 4, 2) := by decide +kernel
theorem dX4_row_70 : decode cX4_row 70 = .ok (.ifCond .lt 36, 3) := by decide +kernel
theorem dX4_row_73 : decode cX4_row 73 = .ok (.iload 4, 2) := by decide +kernel
theorem dX4_row_75 : decode cX4_row 75 = .ok (.iconst 2, 1) := by decide +kernel
theorem dX4_row_76 : decode cX4_row 76 = .ok (.if_icmp .ge 30, 3) := by decide +kernel
theorem dX4_row_79 : decode cX4_row 79 = .ok (.bipush 64, 2) := by decide +kernel
theorem dX4_row_81 : decode cX4_row 81 = .ok (.iload 4, 2) := by decide +kernel
theorem dX4_row_83 : decode cX4_row 83 = .ok (.imul, 1) := by decide +kernel
theorem dX4_row_84 : decode cX4_row 84 = .ok (.iload 8, 2) := by decide +kernel
theorem dX4_row_86 : decode cX4_row 86 = .ok (.iadd, 1) := by decide +kernel
theorem dX4_row_87 : decode cX4_row 87 = .ok (.aload_n 0, 1) := by decide +kernel
theorem dX4_row_88 : decode cX4_row 88 = .ok (.getfield 20, 3) := by decide +kernel
theorem dX4_row_91 : decode cX4_row 91 = .ok (.bipush 7, 2) := by decide +kernel
theorem dX4_row_93 : decode cX4_row 93 = .ok (.iload 5, 2) := by decide +kernel
theorem dX4_row_95 : decode cX4_row 95 = .ok (.imul, 1) := by decide +kernel
theorem dX4_row_96 : decode cX4_row 96 = .ok (.iconst 4, 1) := by decide +kernel
theorem dX4_row_97 : decode cX4_row 97 = .ok (.iadd, 1) := by decide +kernel
theorem dX4_row_98 : decode cX4_row 98 = .ok (.iaload, 1) := by decide +kernel
theorem dX4_row_99 : decode cX4_row 99 = .ok (.if_icmp .ge 7, 3) := by decide +kernel
theorem dX4_row_102 : decode cX4_row 102 = .ok (.iconst 1, 1) := by decide +kernel
theorem dX4_row_103 : decode cX4_row 103 = .ok (.goto 4, 3) := by decide +kernel
theorem dX4_row_106 : decode cX4_row 106 = .ok (.iconst 0, 1) := by decide +kernel
theorem dX4_row_107 : decode cX4_row 107 = .ok (.istore 9, 2) := by decide +kernel
theorem dX4_row_109 : decode cX4_row 109 = .ok (.lload 6, 2) := by decide +kernel
theorem dX4_row_111 : decode cX4_row 111 = .ok (.iconst 1, 1) := by decide +kernel
theorem dX4_row_112 : decode cX4_row 112 = .ok (.lshl, 1) := by decide +kernel
theorem dX4_row_113 : decode cX4_row 113 = .ok (.iload 9, 2) := by decide +kernel
theorem dX4_row_115 : decode cX4_row 115 = .ok (.ifCond .eq 34, 3) := by decide +kernel
theorem dX4_row_118 : decode cX4_row 118 = .ok (.aload_n 0, 1) := by decide +kernel
theorem dX4_row_119 : decode cX4_row 119 = .ok (.iload 5, 2) := by decide +kernel
theorem dX4_row_121 : decode cX4_row 121 = .ok (.iload 9, 2) := by decide +kernel
theorem dX4_row_123 : decode cX4_row 123 = .ok (.ifCond .eq 14, 3) := by decide +kernel
theorem dX4_row_126 : decode cX4_row 126 = .ok (.bipush 64, 2) := by decide +kernel
theorem dX4_row_128 : decode cX4_row 128 = .ok (.iload 4, 2) := by decide +kernel
theorem dX4_row_130 : decode cX4_row 130 = .ok (.imul, 1) := by decide +kernel
theorem dX4_row_131 : decode cX4_row 131 = .ok (.iload 8, 2) := by decide +kernel
theorem dX4_row_133 : decode cX4_row 133 = .ok (.iadd, 1) := by decide +kernel
theorem dX4_row_134 : decode cX4_row 134 = .ok (.goto 4, 3) := by decide +kernel
theorem dX4_row_137 : decode cX4_row 137 = .ok (.iconst 0, 1) := by decide +kernel
theorem dX4_row_138 : decode cX4_row 138 = .ok (.iload_n 3, 1) := by decide +kernel
theorem dX4_row_139 : decode cX4_row 139 = .ok (.invokevirtual 132, 3) := by decide +kernel
theorem dX4_row_142 : decode cX4_row 142 = .ok (.ifCond .eq 7, 3) := by decide +kernel
theorem dX4_row_145 : decode cX4_row 145 = .ok (.lconst 1, 1) := by decide +kernel
theorem dX4_row_146 : decode cX4_row 146 = .ok (.goto 4, 3) := by decide +kernel
theorem dX4_row_149 : decode cX4_row 149 = .ok (.lconst 0, 1) := by decide +kernel
theorem dX4_row_150 : decode cX4_row 150 = .ok (.lor, 1) := by decide +kernel
theorem dX4_row_151 : decode cX4_row 151 = .ok (.lstore 6, 2) := by decide +kernel
theorem dX4_row_153 : decode cX4_row 153 = .ok (.iinc 8 1, 3) := by decide +kernel
theorem dX4_row_156 : decode cX4_row 156 = .ok (.goto (-95), 3) := by decide +kernel
theorem dX4_row_159 : decode cX4_row 159 = .ok (.lload 6, 2) := by decide +kernel
theorem dX4_row_161 : decode cX4_row 161 = .ok (.lreturn, 1) := by decide +kernel
theorem dX4_wish_0 : decode cX4_wish 0 = .ok (.aload_n 0, 1) := by decide +kernel
theorem dX4_wish_1 : decode cX4_wish 1 = .ok (.iload_n 1, 1) := by decide +kernel
theorem dX4_wish_2 : decode cX4_wish 2 = .ok (.ifCond .lt 18, 3) := by decide +kernel
theorem dX4_wish_5 : decode cX4_wish 5 = .ok (.iload_n 1, 1) := by decide +kernel
theorem dX4_wish_6 : decode cX4_wish 6 = .ok (.iconst 2, 1) := by decide +kernel
theorem dX4_wish_7 : decode cX4_wish 7 = .ok (.if_icmp .gt 13, 3) := by decide +kernel
theorem dX4_wish_10 : decode cX4_wish 10 = .ok (.iload_n 2, 1) := by decide +kernel
theorem dX4_wish_11 : decode cX4_wish 11 = .ok (.ifCond .lt 9, 3) := by decide +kernel
theorem dX4_wish_14 : decode cX4_wish 14 = .ok (.iload_n 2, 1) := by decide +kernel
theorem dX4_wish_15 : decode cX4_wish 15 = .ok (.bipush 7, 2) := by decide +kernel
theorem dX4_wish_17 : decode cX4_wish 17 = .ok (.if_icmp .le 7, 3) := by decide +kernel
theorem dX4_wish_20 : decode cX4_wish 20 = .ok (.iconst 1, 1) := by decide +kernel
theorem dX4_wish_21 : decode cX4_wish 21 = .ok (.goto 4, 3) := by decide +kernel
theorem dX4_wish_24 : decode cX4_wish 24 = .ok (.iconst 0, 1) := by decide +kernel
theorem dX4_wish_25 : decode cX4_wish 25 = .ok (.putfield 45, 3) := by decide +kernel
theorem dX4_wish_28 : decode cX4_wish 28 = .ok (.aload_n 0, 1) := by decide +kernel
theorem dX4_wish_29 : decode cX4_wish 29 = .ok (.getfield 45, 3) := by decide +kernel
theorem dX4_wish_32 : decode cX4_wish 32 = .ok (.ifCond .le 5, 3) := by decide +kernel
theorem dX4_wish_35 : decode cX4_wish 35 = .ok (.iconst 0, 1) := by decide +kernel
theorem dX4_wish_36 : decode cX4_wish 36 = .ok (.ireturn, 1) := by decide +kernel
theorem dX4_wish_37 : decode cX4_wish 37 = .ok (.iload_n 1, 1) := by decide +kernel
theorem dX4_wish_38 : decode cX4_wish 38 = .ok (.iconst 2, 1) := by decide +kernel
theorem dX4_wish_39 : decode cX4_wish 39 = .ok (.if_icmp .ne 33, 3) := by decide +kernel
theorem dX4_wish_42 : decode cX4_wish 42 = .ok (.iload_n 2, 1) := by decide +kernel
theorem dX4_wish_43 : decode cX4_wish 43 = .ok (.bipush 7, 2) := by decide +kernel
theorem dX4_wish_45 : decode cX4_wish 45 = .ok (.if_icmp .ne 10, 3) := by decide +kernel
theorem dX4_wish_48 : decode cX4_wish 48 = .ok (.aload_n 0, 1) := by decide +kernel
theorem dX4_wish_49 : decode cX4_wish 49 = .ok (.getfield 55, 3) := by decide +kernel
theorem dX4_wish_52 : decode cX4_wish 52 = .ok (.goto 19, 3) := by decide +kernel
theorem dX4_wish_55 : decode cX4_wish 55 = .ok (.aload_n 0, 1) := by decide +kernel
theorem dX4_wish_56 : decode cX4_wish 56 = .ok (.getfield 27, 3) := by decide +kernel
theorem dX4_wish_59 : decode cX4_wish 59 = .ok (.iload_n 2, 1) := by decide +kernel
theorem dX4_wish_60 : decode cX4_wish 60 = .ok (.bipush 7, 2) := by decide +kernel
theorem dX4_wish_62 : decode cX4_wish 62 = .ok (.if_icmp .ge 7, 3) := by decide +kernel
theorem dX4_wish_65 : decode cX4_wish 65 = .ok (.iload_n 2, 1) := by decide +kernel
theorem dX4_wish_66 : decode cX4_wish 66 = .ok (.goto 4, 3) := by decide +kernel
theorem dX4_wish_69 : decode cX4_wish 69 = .ok (.iconst 0, 1) := by decide +kernel
theorem dX4_wish_70 : decode cX4_wish 70 = .ok (.iaload, 1) := by decide +kernel
theorem dX4_wish_71 : decode cX4_wish 71 = .ok (.ireturn, 1) := by decide +kernel
theorem dX4_wish_72 : decode cX4_wish 72 = .ok (.iload_n 2, 1) := by decide +kernel
theorem dX4_wish_73 : decode cX4_wish 73 = .ok (.bipush 7, 2) := by decide +kernel
theorem dX4_wish_75 : decode cX4_wish 75 = .ok (.if_icmp .ne 12, 3) := by decide +kernel
theorem dX4_wish_78 : decode cX4_wish 78 = .ok (.aload_n 0, 1) := by decide +kernel
theorem dX4_wish_79 : decode cX4_wish 79 = .ok (.getfield 33, 3) := by decide +kernel
theorem dX4_wish_82 : decode cX4_wish 82 = .ok (.iload_n 1, 1) := by decide +kernel
theorem dX4_wish_83 : decode cX4_wish 83 = .ok (.iaload, 1) := by decide +kernel
theorem dX4_wish_84 : decode cX4_wish 84 = .ok (.goto 24, 3) := by decide +kernel
theorem dX4_wish_87 : decode cX4_wish 87 = .ok (.aload_n 0, 1) := by decide +kernel
theorem dX4_wish_88 : decode cX4_wish 88 = .ok (.getfield 30, 3) := by decide +kernel
theorem dX4_wish_91 : decode cX4_wish 91 = .ok (.bipush 7, 2) := by decide +kernel
theorem dX4_wish_93 : decode cX4_wish 93 = .ok (.iload_n 1, 1) := by decide +kernel
theorem dX4_wish_94 : decode cX4_wish 94 = .ok (.imul, 1) := by decide +kernel
theorem dX4_wish_95 : decode cX4_wish 95 = .ok (.iload_n 2, 1) := by decide +kernel
theorem dX4_wish_96 : decode cX4_wish 96 = .ok (.bipush 7, 2) := by decide +kernel
theorem dX4_wish_98 : decode cX4_wish 98 = .ok (.if_icmp .ge 7, 3) := by decide +kernel
theorem dX4_wish_101 : decode cX4_wish 101 = .ok (.iload_n 2, 1) := by decide +kernel
theorem dX4_wish_102 : decode cX4_wish 102 = .ok (.goto 4, 3) := by decide +kernel
theorem dX4_wish_105 : decode cX4_wish 105 = .ok (.iconst 0, 1) := by decide +kernel
theorem dX4_wish_106 : decode cX4_wish 106 = .ok (.iadd, 1) := by decide +kernel
theorem dX4_wish_107 : decode cX4_wish 107 = .ok (.iaload, 1) := by decide +kernel
theorem dX4_wish_108 : decode cX4_wish 108 = .ok (.ireturn, 1) := by decide +kernel
theorem dX4_look_0 : decode cX4_look 0 = .ok (.aload_n 0, 1) := by decide +kernel
theorem dX4_look_1 : decode cX4_look 1 = .ok (.iconst 0, 1) := by decide +kernel
theorem dX4_look_2 : decode cX4_look 2 = .ok (.putfield 45, 3) := by decide +kernel
theorem dX4_look_5 : decode cX4_look 5 = .ok (.iload_n 1, 1) := by decide +kernel
theorem dX4_look_6 : decode cX4_look 6 = .ok (.tableswitch 84 0 5 #[38, 43, 48, 53, 58, 63], 38) := by decide +kernel
theorem dX4_look_44 : decode cX4_look 44 = .ok (.aload_n 0, 1) := by decide +kernel
theorem dX4_look_45 : decode cX4_look 45 = .ok (.getfield 66, 3) := by decide +kernel
theorem dX4_look_48 : decode cX4_look 48 = .ok (.ireturn, 1) := by decide +kernel
theorem dX4_look_49 : decode cX4_look 49 = .ok (.aload_n 0, 1) := by decide +kernel
theorem dX4_look_50 : decode cX4_look 50 = .ok (.getfield 73, 3) := by decide +kernel
theorem dX4_look_53 : decode cX4_look 53 = .ok (.ireturn, 1) := by decide +kernel
theorem dX4_look_54 : decode cX4_look 54 = .ok (.aload_n 0, 1) := by decide +kernel
theorem dX4_look_55 : decode cX4_look 55 = .ok (.getfield 79, 3) := by decide +kernel
theorem dX4_look_58 : decode cX4_look 58 = .ok (.ireturn, 1) := by decide +kernel
theorem dX4_look_59 : decode cX4_look 59 = .ok (.aload_n 0, 1) := by decide +kernel
theorem dX4_look_60 : decode cX4_look 60 = .ok (.getfield 55, 3) := by decide +kernel
theorem dX4_look_63 : decode cX4_look 63 = .ok (.ireturn, 1) := by decide +kernel
theorem dX4_look_64 : decode cX4_look 64 = .ok (.aload_n 0, 1) := by decide +kernel
theorem dX4_look_65 : decode cX4_look 65 = .ok (.getfield 52, 3) := by decide +kernel
theorem dX4_look_68 : decode cX4_look 68 = .ok (.ireturn, 1) := by decide +kernel
theorem dX4_look_69 : decode cX4_look 69 = .ok (.aload_n 0, 1) := by decide +kernel
theorem dX4_look_70 : decode cX4_look 70 = .ok (.getfield 58, 3) := by decide +kernel
theorem dX4_look_73 : decode cX4_look 73 = .ok (.ifCond .eq 15, 3) := by decide +kernel
theorem dX4_look_76 : decode cX4_look 76 = .ok (.aload_n 0, 1) := by decide +kernel
theorem dX4_look_77 : decode cX4_look 77 = .ok (.getfield 92, 3) := by decide +kernel
theorem dX4_look_80 : decode cX4_look 80 = .ok (.aload_n 0, 1) := by decide +kernel
theorem dX4_look_81 : decode cX4_look 81 = .ok (.getfield 95, 3) := by decide +kernel
theorem dX4_look_84 : decode cX4_look 84 = .ok (.isub, 1) := by decide +kernel
theorem dX4_look_85 : decode cX4_look 85 = .ok (.goto 4, 3) := by decide +kernel
theorem dX4_look_88 : decode cX4_look 88 = .ok (.iconst (-1), 1) := by decide +kernel
theorem dX4_look_89 : decode cX4_look 89 = .ok (.ireturn, 1) := by decide +kernel
theorem dX4_look_90 : decode cX4_look 90 = .ok (.iconst (-1), 1) := by decide +kernel
theorem dX4_look_91 : decode cX4_look 91 = .ok (.ireturn, 1) := by decide +kernel
