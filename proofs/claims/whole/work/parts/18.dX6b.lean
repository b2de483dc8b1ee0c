/-! decode rows -/
theorem dX6_isTooNear_0 : decode mX6_isTooNear.2.1 0 = .ok (.aload_n 0, 1) := by decide +kernel
theorem dX6_isTooNear_1 : decode mX6_isTooNear.2.1 1 = .ok (.iload_n 1, 1) := by decide +kernel
theorem dX6_isTooNear_2 : decode mX6_isTooNear.2.1 2 = .ok (.invokevirtual 85, 3) := by decide +kernel
theorem dX6_isTooNear_5 : decode mX6_isTooNear.2.1 5 = .ok (.bipush 6, 2) := by decide +kernel
theorem dX6_isTooNear_7 : decode mX6_isTooNear.2.1 7 = .ok (.if_icmp .ge 16, 3) := by decide +kernel
theorem dX6_isTooNear_10 : decode mX6_isTooNear.2.1 10 = .ok (.sipush 12000, 3) := by decide +kernel
theorem dX6_isTooNear_13 : decode mX6_isTooNear.2.1 13 = .ok (.aload_n 0, 1) := by decide +kernel
theorem dX6_isTooNear_14 : decode mX6_isTooNear.2.1 14 = .ok (.getfield 43, 3) := by decide +kernel
theorem dX6_isTooNear_17 : decode mX6_isTooNear.2.1 17 = .ok (.idiv, 1) := by decide +kernel
theorem dX6_isTooNear_18 : decode mX6_isTooNear.2.1 18 = .ok (.bipush 90, 2) := by decide +kernel
theorem dX6_isTooNear_20 : decode mX6_isTooNear.2.1 20 = .ok (.if_icmp .ge 8, 3) := by decide +kernel
theorem dX6_isTooNear_23 : decode mX6_isTooNear.2.1 23 = .ok (.bipush 90, 2) := by decide +kernel
theorem dX6_isTooNear_25 : decode mX6_isTooNear.2.1 25 = .ok (.goto 11, 3) := by decide +kernel
theorem dX6_isTooNear_28 : decode mX6_isTooNear.2.1 28 = .ok (.sipush 12000, 3) := by decide +kernel
theorem dX6_isTooNear_31 : decode mX6_isTooNear.2.1 31 = .ok (.aload_n 0, 1) := by decide +kernel
theorem dX6_isTooNear_32 : decode mX6_isTooNear.2.1 32 = .ok (.getfield 43, 3) := by decide +kernel
theorem dX6_isTooNear_35 : decode mX6_isTooNear.2.1 35 = .ok (.idiv, 1) := by decide +kernel
theorem dX6_isTooNear_36 : decode mX6_isTooNear.2.1 36 = .ok (.istore_n 2, 1) := by decide +kernel
theorem dX6_isTooNear_37 : decode mX6_isTooNear.2.1 37 = .ok (.iconst 0, 1) := by decide +kernel
theorem dX6_isTooNear_38 : decode mX6_isTooNear.2.1 38 = .ok (.istore_n 3, 1) := by decide +kernel
theorem dX6_isTooNear_39 : decode mX6_isTooNear.2.1 39 = .ok (.iload_n 3, 1) := by decide +kernel
theorem dX6_isTooNear_40 : decode mX6_isTooNear.2.1 40 = .ok (.bipush 60, 2) := by decide +kernel
theorem dX6_isTooNear_42 : decode mX6_isTooNear.2.1 42 = .ok (.if_icmp .ge 41, 3) := by decide +kernel
theorem dX6_isTooNear_45 : decode mX6_isTooNear.2.1 45 = .ok (.aload_n 0, 1) := by decide +kernel
theorem dX6_isTooNear_46 : decode mX6_isTooNear.2.1 46 = .ok (.getfield 7, 3) := by decide +kernel
theorem dX6_isTooNear_49 : decode mX6_isTooNear.2.1 49 = .ok (.iload_n 3, 1) := by decide +kernel
theorem dX6_isTooNear_50 : decode mX6_isTooNear.2.1 50 = .ok (.iaload, 1) := by decide +kernel
theorem dX6_isTooNear_51 : decode mX6_isTooNear.2.1 51 = .ok (.iconst 3, 1) := by decide +kernel
theorem dX6_isTooNear_52 : decode mX6_isTooNear.2.1 52 = .ok (.if_icmp .ne 25, 3) := by decide +kernel
theorem dX6_isTooNear_55 : decode mX6_isTooNear.2.1 55 = .ok (.aload_n 0, 1) := by decide +kernel
theorem dX6_isTooNear_56 : decode mX6_isTooNear.2.1 56 = .ok (.getfield 16, 3) := by decide +kernel
theorem dX6_isTooNear_59 : decode mX6_isTooNear.2.1 59 = .ok (.iload_n 3, 1) := by decide +kernel
theorem dX6_isTooNear_60 : decode mX6_isTooNear.2.1 60 = .ok (.iaload, 1) := by decide +kernel
theorem dX6_isTooNear_61 : decode mX6_isTooNear.2.1 61 = .ok (.iload_n 1, 1) := by decide +kernel
theorem dX6_isTooNear_62 : decode mX6_isTooNear.2.1 62 = .ok (.if_icmp .ne 15, 3) := by decide +kernel
theorem dX6_isTooNear_65 : decode mX6_isTooNear.2.1 65 = .ok (.aload_n 0, 1) := by decide +kernel
theorem dX6_isTooNear_66 : decode mX6_isTooNear.2.1 66 = .ok (.getfield 13, 3) := by decide +kernel
theorem dX6_isTooNear_69 : decode mX6_isTooNear.2.1 69 = .ok (.iload_n 3, 1) := by decide +kernel
theorem dX6_isTooNear_70 : decode mX6_isTooNear.2.1 70 = .ok (.iaload, 1) := by decide +kernel
theorem dX6_isTooNear_71 : decode mX6_isTooNear.2.1 71 = .ok (.iload_n 2, 1) := by decide +kernel
theorem dX6_isTooNear_72 : decode mX6_isTooNear.2.1 72 = .ok (.if_icmp .ge 5, 3) := by decide +kernel
theorem dX6_isTooNear_75 : decode mX6_isTooNear.2.1 75 = .ok (.iconst 1, 1) := by decide +kernel
theorem dX6_isTooNear_76 : decode mX6_isTooNear.2.1 76 = .ok (.ireturn, 1) := by decide +kernel
theorem dX6_isTooNear_77 : decode mX6_isTooNear.2.1 77 = .ok (.iinc 3 1, 3) := by decide +kernel
theorem dX6_isTooNear_80 : decode mX6_isTooNear.2.1 80 = .ok (.goto (-41), 3) := by decide +kernel
theorem dX6_isTooNear_83 : decode mX6_isTooNear.2.1 83 = .ok (.iconst 0, 1) := by decide +kernel
theorem dX6_isTooNear_84 : decode mX6_isTooNear.2.1 84 = .ok (.ireturn, 1) := by decide +kernel
theorem dX6_clamp_0 : decode mX6_clamp.2.1 0 = .ok (.aload_n 0, 1) := by decide +kernel
theorem dX6_clamp_1 : decode mX6_clamp.2.1 1 = .ok (.getfield 22, 3) := by decide +kernel
theorem dX6_clamp_4 : decode mX6_clamp.2.1 4 = .ok (.iload_n 1, 1) := by decide +kernel
theorem dX6_clamp_5 : decode mX6_clamp.2.1 5 = .ok (.dup2, 1) := by decide +kernel
theorem dX6_clamp_6 : decode mX6_clamp.2.1 6 = .ok (.iaload, 1) := by decide +kernel
theorem dX6_clamp_7 : decode mX6_clamp.2.1 7 = .ok (.iconst 1, 1) := by decide +kernel
theorem dX6_clamp_8 : decode mX6_clamp.2.1 8 = .ok (.iadd, 1) := by decide +kernel
theorem dX6_clamp_9 : decode mX6_clamp.2.1 9 = .ok (.iastore, 1) := by decide +kernel
theorem dX6_clamp_10 : decode mX6_clamp.2.1 10 = .ok (.aload_n 0, 1) := by decide +kernel
theorem dX6_clamp_11 : decode mX6_clamp.2.1 11 = .ok (.getfield 25, 3) := by decide +kernel
theorem dX6_clamp_14 : decode mX6_clamp.2.1 14 = .ok (.iload_n 1, 1) := by decide +kernel
theorem dX6_clamp_15 : decode mX6_clamp.2.1 15 = .ok (.iaload, 1) := by decide +kernel
theorem dX6_clamp_16 : decode mX6_clamp.2.1 16 = .ok (.ifCond .lt 7, 3) := by decide +kernel
theorem dX6_clamp_19 : decode mX6_clamp.2.1 19 = .ok (.iconst 1, 1) := by decide +kernel
theorem dX6_clamp_20 : decode mX6_clamp.2.1 20 = .ok (.goto 4, 3) := by decide +kernel
theorem dX6_clamp_23 : decode mX6_clamp.2.1 23 = .ok (.iconst 0, 1) := by decide +kernel
theorem dX6_clamp_24 : decode mX6_clamp.2.1 24 = .ok (.istore_n 2, 1) := by decide +kernel
theorem dX6_clamp_25 : decode mX6_clamp.2.1 25 = .ok (.iload_n 2, 1) := by decide +kernel
theorem dX6_clamp_26 : decode mX6_clamp.2.1 26 = .ok (.ifCond .ne 15, 3) := by decide +kernel
theorem dX6_clamp_29 : decode mX6_clamp.2.1 29 = .ok (.aload_n 0, 1) := by decide +kernel
theorem dX6_clamp_30 : decode mX6_clamp.2.1 30 = .ok (.getfield 22, 3) := by decide +kernel
theorem dX6_clamp_33 : decode mX6_clamp.2.1 33 = .ok (.iload_n 1, 1) := by decide +kernel
theorem dX6_clamp_34 : decode mX6_clamp.2.1 34 = .ok (.iaload, 1) := by decide +kernel
theorem dX6_clamp_35 : decode mX6_clamp.2.1 35 = .ok (.bipush 40, 2) := by decide +kernel
theorem dX6_clamp_37 : decode mX6_clamp.2.1 37 = .ok (.if_icmp .ge 4, 3) := by decide +kernel
theorem dX6_clamp_40 : decode mX6_clamp.2.1 40 = .ok (.return_, 1) := by decide +kernel
theorem dX6_clamp_41 : decode mX6_clamp.2.1 41 = .ok (.aload_n 0, 1) := by decide +kernel
theorem dX6_clamp_42 : decode mX6_clamp.2.1 42 = .ok (.getfield 25, 3) := by decide +kernel
theorem dX6_clamp_45 : decode mX6_clamp.2.1 45 = .ok (.iload_n 1, 1) := by decide +kernel
theorem dX6_clamp_46 : decode mX6_clamp.2.1 46 = .ok (.iaload, 1) := by decide +kernel
theorem dX6_clamp_47 : decode mX6_clamp.2.1 47 = .ok (.aload_n 0, 1) := by decide +kernel
theorem dX6_clamp_48 : decode mX6_clamp.2.1 48 = .ok (.getfield 28, 3) := by decide +kernel
theorem dX6_clamp_51 : decode mX6_clamp.2.1 51 = .ok (.iload_n 1, 1) := by decide +kernel
theorem dX6_clamp_52 : decode mX6_clamp.2.1 52 = .ok (.iaload, 1) := by decide +kernel
theorem dX6_clamp_53 : decode mX6_clamp.2.1 53 = .ok (.if_icmp .le 12, 3) := by decide +kernel
theorem dX6_clamp_56 : decode mX6_clamp.2.1 56 = .ok (.aload_n 0, 1) := by decide +kernel
theorem dX6_clamp_57 : decode mX6_clamp.2.1 57 = .ok (.getfield 25, 3) := by decide +kernel
theorem dX6_clamp_60 : decode mX6_clamp.2.1 60 = .ok (.iload_n 1, 1) := by decide +kernel
theorem dX6_clamp_61 : decode mX6_clamp.2.1 61 = .ok (.iaload, 1) := by decide +kernel
theorem dX6_clamp_62 : decode mX6_clamp.2.1 62 = .ok (.goto 9, 3) := by decide +kernel
theorem dX6_clamp_65 : decode mX6_clamp.2.1 65 = .ok (.aload_n 0, 1) := by decide +kernel
theorem dX6_clamp_66 : decode mX6_clamp.2.1 66 = .ok (.getfield 28, 3) := by decide +kernel
theorem dX6_clamp_69 : decode mX6_clamp.2.1 69 = .ok (.iload_n 1, 1) := by decide +kernel
theorem dX6_clamp_70 : decode mX6_clamp.2.1 70 = .ok (.iaload, 1) := by decide +kernel
theorem dX6_clamp_71 : decode mX6_clamp.2.1 71 = .ok (.istore_n 3, 1) := by decide +kernel
theorem dX6_clamp_72 : decode mX6_clamp.2.1 72 = .ok (.aload_n 0, 1) := by decide +kernel
theorem dX6_clamp_73 : decode mX6_clamp.2.1 73 = .ok (.getfield 25, 3) := by decide +kernel
theorem dX6_clamp_76 : decode mX6_clamp.2.1 76 = .ok (.iload_n 1, 1) := by decide +kernel
theorem dX6_clamp_77 : decode mX6_clamp.2.1 77 = .ok (.iaload, 1) := by decide +kernel
theorem dX6_clamp_78 : decode mX6_clamp.2.1 78 = .ok (.aload_n 0, 1) := by decide +kernel
theorem dX6_clamp_79 : decode mX6_clamp.2.1 79 = .ok (.getfield 28, 3) := by decide +kernel
theorem dX6_clamp_82 : decode mX6_clamp.2.1 82 = .ok (.iload_n 1, 1) := by decide +kernel
theorem dX6_clamp_83 : decode mX6_clamp.2.1 83 = .ok (.iaload, 1) := by decide +kernel
theorem dX6_clamp_84 : decode mX6_clamp.2.1 84 = .ok (.if_icmp .le 12, 3) := by decide +kernel
theorem dX6_clamp_87 : decode mX6_clamp.2.1 87 = .ok (.aload_n 0, 1) := by decide +kernel
theorem dX6_clamp_88 : decode mX6_clamp.2.1 88 = .ok (.getfield 28, 3) := by decide +kernel
theorem dX6_clamp_91 : decode mX6_clamp.2.1 91 = .ok (.iload_n 1, 1) := by decide +kernel
theorem dX6_clamp_92 : decode mX6_clamp.2.1 92 = .ok (.iaload, 1) := by decide +kernel
theorem dX6_clamp_93 : decode mX6_clamp.2.1 93 = .ok (.goto 9, 3) := by decide +kernel
theorem dX6_clamp_96 : decode mX6_clamp.2.1 96 = .ok (.aload_n 0, 1) := by decide +kernel
theorem dX6_clamp_97 : decode mX6_clamp.2.1 97 = .ok (.getfield 25, 3) := by decide +kernel
theorem dX6_clamp_100 : decode mX6_clamp.2.1 100 = .ok (.iload_n 1, 1) := by decide +kernel
theorem dX6_clamp_101 : decode mX6_clamp.2.1 101 = .ok (.iaload, 1) := by decide +kernel
theorem dX6_clamp_102 : decode mX6_clamp.2.1 102 = .ok (.istore 4, 2) := by decide +kernel
theorem dX6_clamp_104 : decode mX6_clamp.2.1 104 = .ok (.iload_n 2, 1) := by decide +kernel
theorem dX6_clamp_105 : decode mX6_clamp.2.1 105 = .ok (.ifCond .eq 15, 3) := by decide +kernel
theorem dX6_clamp_108 : decode mX6_clamp.2.1 108 = .ok (.iload 4, 2) := by decide +kernel
theorem dX6_clamp_110 : decode mX6_clamp.2.1 110 = .ok (.sipush 4000, 3) := by decide +kernel
theorem dX6_clamp_113 : decode mX6_clamp.2.1 113 = .ok (.if_icmp .le 7, 3) := by decide +kernel
theorem dX6_clamp_116 : decode mX6_clamp.2.1 116 = .ok (.iconst 1, 1) := by decide +kernel
theorem dX6_clamp_117 : decode mX6_clamp.2.1 117 = .ok (.goto 4, 3) := by decide +kernel
theorem dX6_clamp_120 : decode mX6_clamp.2.1 120 = .ok (.iconst 0, 1) := by decide +kernel
theorem dX6_clamp_121 : decode mX6_clamp.2.1 121 = .ok (.istore 5, 2) := by decide +kernel
theorem dX6_clamp_123 : decode mX6_clamp.2.1 123 = .ok (.iload 5, 2) := by decide +kernel
theorem dX6_clamp_125 : decode mX6_clamp.2.1 125 = .ok (.ifCond .eq 20, 3) := by decide +kernel
theorem dX6_clamp_128 : decode mX6_clamp.2.1 128 = .ok (.bipush 100, 2) := by decide +kernel
theorem dX6_clamp_130 : decode mX6_clamp.2.1 130 = .ok (.iload_n 3, 1) := by decide +kernel
theorem dX6_clamp_131 : decode mX6_clamp.2.1 131 = .ok (.iload 4, 2) := by decide +kernel
theorem dX6_clamp_133 : decode mX6_clamp.2.1 133 = .ok (.isub, 1) := by decide +kernel
theorem dX6_clamp_134 : decode mX6_clamp.2.1 134 = .ok (.imul, 1) := by decide +kernel
theorem dX6_clamp_135 : decode mX6_clamp.2.1 135 = .ok (.iconst 3, 1) := by decide +kernel
theorem dX6_clamp_136 : decode mX6_clamp.2.1 136 = .ok (.iload_n 3, 1) := by decide +kernel
theorem dX6_clamp_137 : decode mX6_clamp.2.1 137 = .ok (.imul, 1) := by decide +kernel
theorem dX6_clamp_138 : decode mX6_clamp.2.1 138 = .ok (.if_icmp .gt 7, 3) := by decide +kernel
theorem dX6_clamp_141 : decode mX6_clamp.2.1 141 = .ok (.iconst 1, 1) := by decide +kernel
theorem dX6_clamp_142 : decode mX6_clamp.2.1 142 = .ok (.goto 4, 3) := by decide +kernel
theorem dX6_clamp_145 : decode mX6_clamp.2.1 145 = .ok (.iconst 0, 1) := by decide +kernel
theorem dX6_clamp_146 : decode mX6_clamp.2.1 146 = .ok (.istore 6, 2) := by decide +kernel
theorem dX6_clamp_148 : decode mX6_clamp.2.1 148 = .ok (.aload_n 0, 1) := by decide +kernel
theorem dX6_clamp_149 : decode mX6_clamp.2.1 149 = .ok (.getfield 22, 3) := by decide +kernel
theorem dX6_clamp_152 : decode mX6_clamp.2.1 152 = .ok (.iload_n 1, 1) := by decide +kernel
theorem dX6_clamp_153 : decode mX6_clamp.2.1 153 = .ok (.iconst (-1), 1) := by decide +kernel
theorem dX6_clamp_154 : decode mX6_clamp.2.1 154 = .ok (.iastore, 1) := by decide +kernel
theorem dX6_clamp_155 : decode mX6_clamp.2.1 155 = .ok (.aload_n 0, 1) := by decide +kernel
theorem dX6_clamp_156 : decode mX6_clamp.2.1 156 = .ok (.getfield 19, 3) := by decide +kernel
theorem dX6_clamp_159 : decode mX6_clamp.2.1 159 = .ok (.iload_n 1, 1) := by decide +kernel
theorem dX6_clamp_160 : decode mX6_clamp.2.1 160 = .ok (.iconst 0, 1) := by decide +kernel
theorem dX6_clamp_161 : decode mX6_clamp.2.1 161 = .ok (.iastore, 1) := by decide +kernel
theorem dX6_clamp_162 : decode mX6_clamp.2.1 162 = .ok (.iload 6, 2) := by decide +kernel
theorem dX6_clamp_164 : decode mX6_clamp.2.1 164 = .ok (.ifCond .eq 28, 3) := by decide +kernel
theorem dX6_clamp_167 : decode mX6_clamp.2.1 167 = .ok (.aload_n 0, 1) := by decide +kernel
theorem dX6_clamp_168 : decode mX6_clamp.2.1 168 = .ok (.getfield 7, 3) := by decide +kernel
theorem dX6_clamp_171 : decode mX6_clamp.2.1 171 = .ok (.iload_n 1, 1) := by decide +kernel
theorem dX6_clamp_172 : decode mX6_clamp.2.1 172 = .ok (.iconst 3, 1) := by decide +kernel
theorem dX6_clamp_173 : decode mX6_clamp.2.1 173 = .ok (.iastore, 1) := by decide +kernel
theorem dX6_clamp_174 : decode mX6_clamp.2.1 174 = .ok (.aload_n 0, 1) := by decide +kernel
theorem dX6_clamp_175 : decode mX6_clamp.2.1 175 = .ok (.getfield 13, 3) := by decide +kernel
theorem dX6_clamp_178 : decode mX6_clamp.2.1 178 = .ok (.iload_n 1, 1) := by decide +kernel
theorem dX6_clamp_179 : decode mX6_clamp.2.1 179 = .ok (.iconst 0, 1) := by decide +kernel
theorem dX6_clamp_180 : decode mX6_clamp.2.1 180 = .ok (.iastore, 1) := by decide +kernel
theorem dX6_clamp_181 : decode mX6_clamp.2.1 181 = .ok (.aload_n 0, 1) := by decide +kernel
theorem dX6_clamp_182 : decode mX6_clamp.2.1 182 = .ok (.getfield 31, 3) := by decide +kernel
theorem dX6_clamp_185 : decode mX6_clamp.2.1 185 = .ok (.iload_n 1, 1) := by decide +kernel
theorem dX6_clamp_186 : decode mX6_clamp.2.1 186 = .ok (.dup2, 1) := by decide +kernel
theorem dX6_clamp_187 : decode mX6_clamp.2.1 187 = .ok (.iaload, 1) := by decide +kernel
theorem dX6_clamp_188 : decode mX6_clamp.2.1 188 = .ok (.iconst 1, 1) := by decide +kernel
theorem dX6_clamp_189 : decode mX6_clamp.2.1 189 = .ok (.iadd, 1) := by decide +kernel
theorem dX6_clamp_190 : decode mX6_clamp.2.1 190 = .ok (.iastore, 1) := by decide +kernel
theorem dX6_clamp_191 : decode mX6_clamp.2.1 191 = .ok (.return_, 1) := by decide +kernel
theorem dX6_clamp_192 : decode mX6_clamp.2.1 192 = .ok (.aload_n 0, 1) := by decide +kernel
theorem dX6_clamp_193 : decode mX6_clamp.2.1 193 = .ok (.getfield 34, 3) := by decide +kernel
theorem dX6_clamp_196 : decode mX6_clamp.2.1 196 = .ok (.iload_n 1, 1) := by decide +kernel
theorem dX6_clamp_197 : decode mX6_clamp.2.1 197 = .ok (.iload_n 2, 1) := by decide +kernel
theorem dX6_clamp_198 : decode mX6_clamp.2.1 198 = .ok (.ifCond .ne 7, 3) := by decide +kernel
theorem dX6_clamp_201 : decode mX6_clamp.2.1 201 = .ok (.iconst 3, 1) := by decide +kernel
theorem dX6_clamp_202 : decode mX6_clamp.2.1 202 = .ok (.goto 13, 3) := by decide +kernel
theorem dX6_clamp_205 : decode mX6_clamp.2.1 205 = .ok (.iload 5, 2) := by decide +kernel
theorem dX6_clamp_207 : decode mX6_clamp.2.1 207 = .ok (.ifCond .eq 7, 3) := by decide +kernel
theorem dX6_clamp_210 : decode mX6_clamp.2.1 210 = .ok (.iconst 2, 1) := by decide +kernel
theorem dX6_clamp_211 : decode mX6_clamp.2.1 211 = .ok (.goto 4, 3) := by decide +kernel
theorem dX6_clamp_214 : decode mX6_clamp.2.1 214 = .ok (.iconst 1, 1) := by decide +kernel
theorem dX6_clamp_215 : decode mX6_clamp.2.1 215 = .ok (.iastore, 1) := by decide +kernel
theorem dX6_clamp_216 : decode mX6_clamp.2.1 216 = .ok (.aload_n 0, 1) := by decide +kernel
theorem dX6_clamp_217 : decode mX6_clamp.2.1 217 = .ok (.aload_n 0, 1) := by decide +kernel
theorem dX6_clamp_218 : decode mX6_clamp.2.1 218 = .ok (.getfield 73, 3) := by decide +kernel
theorem dX6_clamp_221 : decode mX6_clamp.2.1 221 = .ok (.iconst 1, 1) := by decide +kernel
theorem dX6_clamp_222 : decode mX6_clamp.2.1 222 = .ok (.ior, 1) := by decide +kernel
theorem dX6_clamp_223 : decode mX6_clamp.2.1 223 = .ok (.putfield 73, 3) := by decide +kernel
theorem dX6_clamp_226 : decode mX6_clamp.2.1 226 = .ok (.aload_n 0, 1) := by decide +kernel
theorem dX6_clamp_227 : decode mX6_clamp.2.1 227 = .ok (.getfield 79, 3) := by decide +kernel
theorem dX6_clamp_230 : decode mX6_clamp.2.1 230 = .ok (.bipush 20, 2) := by decide +kernel
theorem dX6_clamp_232 : decode mX6_clamp.2.1 232 = .ok (.if_icmp .ge 11, 3) := by decide +kernel
theorem dX6_clamp_235 : decode mX6_clamp.2.1 235 = .ok (.aload_n 0, 1) := by decide +kernel
theorem dX6_clamp_236 : decode mX6_clamp.2.1 236 = .ok (.iload_n 1, 1) := by decide +kernel
theorem dX6_clamp_237 : decode mX6_clamp.2.1 237 = .ok (.invokevirtual 89, 3) := by decide +kernel
theorem dX6_clamp_240 : decode mX6_clamp.2.1 240 = .ok (.goto 13, 3) := by decide +kernel
theorem dX6_clamp_243 : decode mX6_clamp.2.1 243 = .ok (.aload_n 0, 1) := by decide +kernel
theorem dX6_clamp_244 : decode mX6_clamp.2.1 244 = .ok (.aload_n 0, 1) := by decide +kernel
theorem dX6_clamp_245 : decode mX6_clamp.2.1 245 = .ok (.getfield 73, 3) := by decide +kernel
theorem dX6_clamp_248 : decode mX6_clamp.2.1 248 = .ok (.iconst 2, 1) := by decide +kernel
theorem dX6_clamp_249 : decode mX6_clamp.2.1 249 = .ok (.ior, 1) := by decide +kernel
theorem dX6_clamp_250 : decode mX6_clamp.2.1 250 = .ok (.putfield 73, 3) := by decide +kernel
theorem dX6_clamp_253 : decode mX6_clamp.2.1 253 = .ok (.return_, 1) := by decide +kernel
theorem dX6_work_0 : decode mX6_work.2.1 0 = .ok (.aload_n 0, 1) := by decide +kernel
theorem dX6_work_1 : decode mX6_work.2.1 1 = .ok (.iload_n 1, 1) := by decide +kernel
theorem dX6_work_2 : decode mX6_work.2.1 2 = .ok (.iload_n 2, 1) := by decide +kernel
theorem dX6_work_3 : decode mX6_work.2.1 3 = .ok (.invokevirtual 54, 3) := by decide +kernel
theorem dX6_work_6 : decode mX6_work.2.1 6 = .ok (.istore_n 3, 1) := by decide +kernel
theorem dX6_work_7 : decode mX6_work.2.1 7 = .ok (.iload_n 3, 1) := by decide +kernel
theorem dX6_work_8 : decode mX6_work.2.1 8 = .ok (.ifCond .ge 4, 3) := by decide +kernel
theorem dX6_work_11 : decode mX6_work.2.1 11 = .ok (.return_, 1) := by decide +kernel
theorem dX6_work_12 : decode mX6_work.2.1 12 = .ok (.aload_n 0, 1) := by decide +kernel
theorem dX6_work_13 : decode mX6_work.2.1 13 = .ok (.getfield 19, 3) := by decide +kernel
theorem dX6_work_16 : decode mX6_work.2.1 16 = .ok (.iload_n 3, 1) := by decide +kernel
theorem dX6_work_17 : decode mX6_work.2.1 17 = .ok (.dup2, 1) := by decide +kernel
theorem dX6_work_18 : decode mX6_work.2.1 18 = .ok (.iaload, 1) := by decide +kernel
theorem dX6_work_19 : decode mX6_work.2.1 19 = .ok (.iconst 1, 1) := by decide +kernel
theorem dX6_work_20 : decode mX6_work.2.1 20 = .ok (.iadd, 1) := by decide +kernel
theorem dX6_work_21 : decode mX6_work.2.1 21 = .ok (.iastore, 1) := by decide +kernel
theorem dX6_work_22 : decode mX6_work.2.1 22 = .ok (.iload_n 2, 1) := by decide +kernel
theorem dX6_work_23 : decode mX6_work.2.1 23 = .ok (.bipush 12, 2) := by decide +kernel
theorem dX6_work_25 : decode mX6_work.2.1 25 = .ok (.if_icmp .ge 37, 3) := by decide +kernel
theorem dX6_work_28 : decode mX6_work.2.1 28 = .ok (.aload_n 0, 1) := by decide +kernel
theorem dX6_work_29 : decode mX6_work.2.1 29 = .ok (.getfield 19, 3) := by decide +kernel
theorem dX6_work_32 : decode mX6_work.2.1 32 = .ok (.iload_n 3, 1) := by decide +kernel
theorem dX6_work_33 : decode mX6_work.2.1 33 = .ok (.iaload, 1) := by decide +kernel
theorem dX6_work_34 : decode mX6_work.2.1 34 = .ok (.bipush 15, 2) := by decide +kernel
theorem dX6_work_36 : decode mX6_work.2.1 36 = .ok (.if_icmp .lt 90, 3) := by decide +kernel
theorem dX6_work_39 : decode mX6_work.2.1 39 = .ok (.aload_n 0, 1) := by decide +kernel
theorem dX6_work_40 : decode mX6_work.2.1 40 = .ok (.iload_n 1, 1) := by decide +kernel
theorem dX6_work_41 : decode mX6_work.2.1 41 = .ok (.iload_n 2, 1) := by decide +kernel
theorem dX6_work_42 : decode mX6_work.2.1 42 = .ok (.iconst 1, 1) := by decide +kernel
theorem dX6_work_43 : decode mX6_work.2.1 43 = .ok (.iadd, 1) := by decide +kernel
theorem dX6_work_44 : decode mX6_work.2.1 44 = .ok (.invokevirtual 54, 3) := by decide +kernel
theorem dX6_work_47 : decode mX6_work.2.1 47 = .ok (.ifCond .ge 79, 3) := by decide +kernel
theorem dX6_work_50 : decode mX6_work.2.1 50 = .ok (.aload_n 0, 1) := by decide +kernel
theorem dX6_work_51 : decode mX6_work.2.1 51 = .ok (.iload_n 3, 1) := by decide +kernel
theorem dX6_work_52 : decode mX6_work.2.1 52 = .ok (.iload_n 1, 1) := by decide +kernel
theorem dX6_work_53 : decode mX6_work.2.1 53 = .ok (.iload_n 2, 1) := by decide +kernel
theorem dX6_work_54 : decode mX6_work.2.1 54 = .ok (.iconst 1, 1) := by decide +kernel
theorem dX6_work_55 : decode mX6_work.2.1 55 = .ok (.iadd, 1) := by decide +kernel
theorem dX6_work_56 : decode mX6_work.2.1 56 = .ok (.invokevirtual 58, 3) := by decide +kernel
theorem dX6_work_59 : decode mX6_work.2.1 59 = .ok (.goto 67, 3) := by decide +kernel
theorem dX6_work_62 : decode mX6_work.2.1 62 = .ok (.aload_n 0, 1) := by decide +kernel
theorem dX6_work_63 : decode mX6_work.2.1 63 = .ok (.getfield 22, 3) := by decide +kernel
theorem dX6_work_66 : decode mX6_work.2.1 66 = .ok (.iload_n 3, 1) := by decide +kernel
theorem dX6_work_67 : decode mX6_work.2.1 67 = .ok (.iaload, 1) := by decide +kernel
theorem dX6_work_68 : decode mX6_work.2.1 68 = .ok (.ifCond .lt 11, 3) := by decide +kernel
theorem dX6_work_71 : decode mX6_work.2.1 71 = .ok (.aload_n 0, 1) := by decide +kernel
theorem dX6_work_72 : decode mX6_work.2.1 72 = .ok (.iload_n 3, 1) := by decide +kernel
theorem dX6_work_73 : decode mX6_work.2.1 73 = .ok (.invokevirtual 93, 3) := by decide +kernel
theorem dX6_work_76 : decode mX6_work.2.1 76 = .ok (.goto 50, 3) := by decide +kernel
theorem dX6_work_79 : decode mX6_work.2.1 79 = .ok (.aload_n 0, 1) := by decide +kernel
theorem dX6_work_80 : decode mX6_work.2.1 80 = .ok (.getfield 19, 3) := by decide +kernel
theorem dX6_work_83 : decode mX6_work.2.1 83 = .ok (.iload_n 3, 1) := by decide +kernel
theorem dX6_work_84 : decode mX6_work.2.1 84 = .ok (.iaload, 1) := by decide +kernel
theorem dX6_work_85 : decode mX6_work.2.1 85 = .ok (.bipush 15, 2) := by decide +kernel
theorem dX6_work_87 : decode mX6_work.2.1 87 = .ok (.if_icmp .lt 39, 3) := by decide +kernel
theorem dX6_work_90 : decode mX6_work.2.1 90 = .ok (.aload_n 0, 1) := by decide +kernel
theorem dX6_work_91 : decode mX6_work.2.1 91 = .ok (.getfield 73, 3) := by decide +kernel
theorem dX6_work_94 : decode mX6_work.2.1 94 = .ok (.ifCond .ne 32, 3) := by decide +kernel
theorem dX6_work_97 : decode mX6_work.2.1 97 = .ok (.aload_n 0, 1) := by decide +kernel
theorem dX6_work_98 : decode mX6_work.2.1 98 = .ok (.iload_n 1, 1) := by decide +kernel
theorem dX6_work_99 : decode mX6_work.2.1 99 = .ok (.invokevirtual 96, 3) := by decide +kernel
theorem dX6_work_102 : decode mX6_work.2.1 102 = .ok (.ifCond .ne 24, 3) := by decide +kernel
theorem dX6_work_105 : decode mX6_work.2.1 105 = .ok (.aload_n 0, 1) := by decide +kernel
theorem dX6_work_106 : decode mX6_work.2.1 106 = .ok (.getfield 22, 3) := by decide +kernel
theorem dX6_work_109 : decode mX6_work.2.1 109 = .ok (.iload_n 3, 1) := by decide +kernel
theorem dX6_work_110 : decode mX6_work.2.1 110 = .ok (.iconst 0, 1) := by decide +kernel
theorem dX6_work_111 : decode mX6_work.2.1 111 = .ok (.iastore, 1) := by decide +kernel
theorem dX6_work_112 : decode mX6_work.2.1 112 = .ok (.aload_n 0, 1) := by decide +kernel
theorem dX6_work_113 : decode mX6_work.2.1 113 = .ok (.getfield 25, 3) := by decide +kernel
theorem dX6_work_116 : decode mX6_work.2.1 116 = .ok (.iload_n 3, 1) := by decide +kernel
theorem dX6_work_117 : decode mX6_work.2.1 117 = .ok (.iconst (-1), 1) := by decide +kernel
theorem dX6_work_118 : decode mX6_work.2.1 118 = .ok (.iastore, 1) := by decide +kernel
theorem dX6_work_119 : decode mX6_work.2.1 119 = .ok (.aload_n 0, 1) := by decide +kernel
theorem dX6_work_120 : decode mX6_work.2.1 120 = .ok (.getfield 28, 3) := by decide +kernel
theorem dX6_work_123 : decode mX6_work.2.1 123 = .ok (.iload_n 3, 1) := by decide +kernel
theorem dX6_work_124 : decode mX6_work.2.1 124 = .ok (.iconst (-1), 1) := by decide +kernel
theorem dX6_work_125 : decode mX6_work.2.1 125 = .ok (.iastore, 1) := by decide +kernel
theorem dX6_work_126 : decode mX6_work.2.1 126 = .ok (.return_, 1) := by decide +kernel
theorem dX6_isWaiting_0 : decode mX6_isWaiting.2.1 0 = .ok (.iconst 0, 1) := by decide +kernel
theorem dX6_isWaiting_1 : decode mX6_isWaiting.2.1 1 = .ok (.istore_n 1, 1) := by decide +kernel
theorem dX6_isWaiting_2 : decode mX6_isWaiting.2.1 2 = .ok (.iload_n 1, 1) := by decide +kernel
theorem dX6_isWaiting_3 : decode mX6_isWaiting.2.1 3 = .ok (.bipush 60, 2) := by decide +kernel
theorem dX6_isWaiting_5 : decode mX6_isWaiting.2.1 5 = .ok (.if_icmp .ge 49, 3) := by decide +kernel
theorem dX6_isWaiting_8 : decode mX6_isWaiting.2.1 8 = .ok (.aload_n 0, 1) := by decide +kernel
theorem dX6_isWaiting_9 : decode mX6_isWaiting.2.1 9 = .ok (.getfield 7, 3) := by decide +kernel
theorem dX6_isWaiting_12 : decode mX6_isWaiting.2.1 12 = .ok (.iload_n 1, 1) := by decide +kernel
theorem dX6_isWaiting_13 : decode mX6_isWaiting.2.1 13 = .ok (.iaload, 1) := by decide +kernel
theorem dX6_isWaiting_14 : decode mX6_isWaiting.2.1 14 = .ok (.iconst 3, 1) := by decide +kernel
theorem dX6_isWaiting_15 : decode mX6_isWaiting.2.1 15 = .ok (.if_icmp .ne 33, 3) := by decide +kernel
theorem dX6_isWaiting_18 : decode mX6_isWaiting.2.1 18 = .ok (.aload_n 0, 1) := by decide +kernel
theorem dX6_isWaiting_19 : decode mX6_isWaiting.2.1 19 = .ok (.getfield 13, 3) := by decide +kernel
theorem dX6_isWaiting_22 : decode mX6_isWaiting.2.1 22 = .ok (.iload_n 1, 1) := by decide +kernel
theorem dX6_isWaiting_23 : decode mX6_isWaiting.2.1 23 = .ok (.iaload, 1) := by decide +kernel
theorem dX6_isWaiting_24 : decode mX6_isWaiting.2.1 24 = .ok (.sipush 5640, 3) := by decide +kernel
theorem dX6_isWaiting_27 : decode mX6_isWaiting.2.1 27 = .ok (.if_icmp .lt 21, 3) := by decide +kernel
theorem dX6_isWaiting_30 : decode mX6_isWaiting.2.1 30 = .ok (.aload_n 0, 1) := by decide +kernel
theorem dX6_isWaiting_31 : decode mX6_isWaiting.2.1 31 = .ok (.iconst 1, 1) := by decide +kernel
theorem dX6_isWaiting_32 : decode mX6_isWaiting.2.1 32 = .ok (.aload_n 0, 1) := by decide +kernel
theorem dX6_isWaiting_33 : decode mX6_isWaiting.2.1 33 = .ok (.getfield 16, 3) := by decide +kernel
theorem dX6_isWaiting_36 : decode mX6_isWaiting.2.1 36 = .ok (.iload_n 1, 1) := by decide +kernel
theorem dX6_isWaiting_37 : decode mX6_isWaiting.2.1 37 = .ok (.iaload, 1) := by decide +kernel
theorem dX6_isWaiting_38 : decode mX6_isWaiting.2.1 38 = .ok (.isub, 1) := by decide +kernel
theorem dX6_isWaiting_39 : decode mX6_isWaiting.2.1 39 = .ok (.iconst 1, 1) := by decide +kernel
theorem dX6_isWaiting_40 : decode mX6_isWaiting.2.1 40 = .ok (.invokevirtual 54, 3) := by decide +kernel
theorem dX6_isWaiting_43 : decode mX6_isWaiting.2.1 43 = .ok (.ifCond .lt 5, 3) := by decide +kernel
theorem dX6_isWaiting_46 : decode mX6_isWaiting.2.1 46 = .ok (.iconst 1, 1) := by decide +kernel
theorem dX6_isWaiting_47 : decode mX6_isWaiting.2.1 47 = .ok (.ireturn, 1) := by decide +kernel
theorem dX6_isWaiting_48 : decode mX6_isWaiting.2.1 48 = .ok (.iinc 1 1, 3) := by decide +kernel
theorem dX6_isWaiting_51 : decode mX6_isWaiting.2.1 51 = .ok (.goto (-49), 3) := by decide +kernel
theorem dX6_isWaiting_54 : decode mX6_isWaiting.2.1 54 = .ok (.iconst 0, 1) := by decide +kernel
theorem dX6_isWaiting_55 : decode mX6_isWaiting.2.1 55 = .ok (.ireturn, 1) := by decide +kernel
theorem dX6_one_0 : decode mX6_one.2.1 0 = .ok (.aload_n 0, 1) := by decide +kernel
theorem dX6_one_1 : decode mX6_one.2.1 1 = .ok (.invokevirtual 100, 3) := by decide +kernel
theorem dX6_one_4 : decode mX6_one.2.1 4 = .ok (.sipush 250, 3) := by decide +kernel
theorem dX6_one_7 : decode mX6_one.2.1 7 = .ok (.if_icmp .le 13, 3) := by decide +kernel
theorem dX6_one_10 : decode mX6_one.2.1 10 = .ok (.aload_n 0, 1) := by decide +kernel
theorem dX6_one_11 : decode mX6_one.2.1 11 = .ok (.aload_n 0, 1) := by decide +kernel
theorem dX6_one_12 : decode mX6_one.2.1 12 = .ok (.getfield 73, 3) := by decide +kernel
theorem dX6_one_15 : decode mX6_one.2.1 15 = .ok (.iconst 4, 1) := by decide +kernel
theorem dX6_one_16 : decode mX6_one.2.1 16 = .ok (.ior, 1) := by decide +kernel
theorem dX6_one_17 : decode mX6_one.2.1 17 = .ok (.putfield 73, 3) := by decide +kernel
theorem dX6_one_20 : decode mX6_one.2.1 20 = .ok (.iconst 0, 1) := by decide +kernel
theorem dX6_one_21 : decode mX6_one.2.1 21 = .ok (.istore_n 1, 1) := by decide +kernel
theorem dX6_one_22 : decode mX6_one.2.1 22 = .ok (.iload_n 1, 1) := by decide +kernel
theorem dX6_one_23 : decode mX6_one.2.1 23 = .ok (.iconst 2, 1) := by decide +kernel
theorem dX6_one_24 : decode mX6_one.2.1 24 = .ok (.if_icmp .ge 28, 3) := by decide +kernel
theorem dX6_one_27 : decode mX6_one.2.1 27 = .ok (.bipush 12, 2) := by decide +kernel
theorem dX6_one_29 : decode mX6_one.2.1 29 = .ok (.istore_n 2, 1) := by decide +kernel
theorem dX6_one_30 : decode mX6_one.2.1 30 = .ok (.iload_n 2, 1) := by decide +kernel
theorem dX6_one_31 : decode mX6_one.2.1 31 = .ok (.ifCond .le 15, 3) := by decide +kernel
theorem dX6_one_34 : decode mX6_one.2.1 34 = .ok (.aload_n 0, 1) := by decide +kernel
theorem dX6_one_35 : decode mX6_one.2.1 35 = .ok (.iload_n 1, 1) := by decide +kernel
theorem dX6_one_36 : decode mX6_one.2.1 36 = .ok (.iload_n 2, 1) := by decide +kernel
theorem dX6_one_37 : decode mX6_one.2.1 37 = .ok (.invokevirtual 104, 3) := by decide +kernel
theorem dX6_one_40 : decode mX6_one.2.1 40 = .ok (.iinc 2 (-1), 3) := by decide +kernel
theorem dX6_one_43 : decode mX6_one.2.1 43 = .ok (.goto (-13), 3) := by decide +kernel
theorem dX6_one_46 : decode mX6_one.2.1 46 = .ok (.iinc 1 1, 3) := by decide +kernel
theorem dX6_one_49 : decode mX6_one.2.1 49 = .ok (.goto (-27), 3) := by decide +kernel
theorem dX6_one_52 : decode mX6_one.2.1 52 = .ok (.aload_n 0, 1) := by decide +kernel
theorem dX6_one_53 : decode mX6_one.2.1 53 = .ok (.getfield 73, 3) := by decide +kernel
theorem dX6_one_56 : decode mX6_one.2.1 56 = .ok (.ifCond .ne 10, 3) := by decide +kernel
theorem dX6_one_59 : decode mX6_one.2.1 59 = .ok (.aload_n 0, 1) := by decide +kernel
theorem dX6_one_60 : decode mX6_one.2.1 60 = .ok (.invokevirtual 108, 3) := by decide +kernel
theorem dX6_one_63 : decode mX6_one.2.1 63 = .ok (.ifCond .eq 7, 3) := by decide +kernel
theorem dX6_one_66 : decode mX6_one.2.1 66 = .ok (.iconst 0, 1) := by decide +kernel
theorem dX6_one_67 : decode mX6_one.2.1 67 = .ok (.goto 29, 3) := by decide +kernel
theorem dX6_one_70 : decode mX6_one.2.1 70 = .ok (.aload_n 0, 1) := by decide +kernel
theorem dX6_one_71 : decode mX6_one.2.1 71 = .ok (.invokevirtual 100, 3) := by decide +kernel
theorem dX6_one_74 : decode mX6_one.2.1 74 = .ok (.sipush 180, 3) := by decide +kernel
theorem dX6_one_77 : decode mX6_one.2.1 77 = .ok (.if_icmp .le 15, 3) := by decide +kernel
theorem dX6_one_80 : decode mX6_one.2.1 80 = .ok (.aload_n 0, 1) := by decide +kernel
theorem dX6_one_81 : decode mX6_one.2.1 81 = .ok (.getfield 111, 3) := by decide +kernel
theorem dX6_one_84 : decode mX6_one.2.1 84 = .ok (.iconst 2, 1) := by decide +kernel
theorem dX6_one_85 : decode mX6_one.2.1 85 = .ok (.if_icmp .le 7, 3) := by decide +kernel
theorem dX6_one_88 : decode mX6_one.2.1 88 = .ok (.iconst 2, 1) := by decide +kernel
theorem dX6_one_89 : decode mX6_one.2.1 89 = .ok (.goto 7, 3) := by decide +kernel
theorem dX6_one_92 : decode mX6_one.2.1 92 = .ok (.aload_n 0, 1) := by decide +kernel
theorem dX6_one_93 : decode mX6_one.2.1 93 = .ok (.getfield 111, 3) := by decide +kernel
theorem dX6_one_96 : decode mX6_one.2.1 96 = .ok (.istore_n 1, 1) := by decide +kernel
theorem dX6_one_97 : decode mX6_one.2.1 97 = .ok (.aload_n 0, 1) := by decide +kernel
theorem dX6_one_98 : decode mX6_one.2.1 98 = .ok (.dup, 1) := by decide +kernel
theorem dX6_one_99 : decode mX6_one.2.1 99 = .ok (.getfield 114, 3) := by decide +kernel
theorem dX6_one_102 : decode mX6_one.2.1 102 = .ok (.iload_n 1, 1) := by decide +kernel
theorem dX6_one_103 : decode mX6_one.2.1 103 = .ok (.aload_n 0, 1) := by decide +kernel
theorem dX6_one_104 : decode mX6_one.2.1 104 = .ok (.getfield 114, 3) := by decide +kernel
theorem dX6_one_107 : decode mX6_one.2.1 107 = .ok (.if_icmp .le 7, 3) := by decide +kernel
theorem dX6_one_110 : decode mX6_one.2.1 110 = .ok (.iconst 1, 1) := by decide +kernel
theorem dX6_one_111 : decode mX6_one.2.1 111 = .ok (.goto 16, 3) := by decide +kernel
theorem dX6_one_114 : decode mX6_one.2.1 114 = .ok (.iload_n 1, 1) := by decide +kernel
theorem dX6_one_115 : decode mX6_one.2.1 115 = .ok (.aload_n 0, 1) := by decide +kernel
theorem dX6_one_116 : decode mX6_one.2.1 116 = .ok (.getfield 114, 3) := by decide +kernel
theorem dX6_one_119 : decode mX6_one.2.1 119 = .ok (.if_icmp .ge 7, 3) := by decide +kernel
theorem dX6_one_122 : decode mX6_one.2.1 122 = .ok (.iconst (-1), 1) := by decide +kernel
theorem dX6_one_123 : decode mX6_one.2.1 123 = .ok (.goto 4, 3) := by decide +kernel
theorem dX6_one_126 : decode mX6_one.2.1 126 = .ok (.iconst 0, 1) := by decide +kernel
theorem dX6_one_127 : decode mX6_one.2.1 127 = .ok (.iadd, 1) := by decide +kernel
theorem dX6_one_128 : decode mX6_one.2.1 128 = .ok (.putfield 114, 3) := by decide +kernel
theorem dX6_one_131 : decode mX6_one.2.1 131 = .ok (.aload_n 0, 1) := by decide +kernel
theorem dX6_one_132 : decode mX6_one.2.1 132 = .ok (.dup, 1) := by decide +kernel
theorem dX6_one_133 : decode mX6_one.2.1 133 = .ok (.getfield 117, 3) := by decide +kernel
theorem dX6_one_136 : decode mX6_one.2.1 136 = .ok (.iconst 1, 1) := by decide +kernel
theorem dX6_one_137 : decode mX6_one.2.1 137 = .ok (.iadd, 1) := by decide +kernel
theorem dX6_one_138 : decode mX6_one.2.1 138 = .ok (.putfield 117, 3) := by decide +kernel
theorem dX6_one_141 : decode mX6_one.2.1 141 = .ok (.return_, 1) := by decide +kernel
theorem dX6_tick_0 : decode mX6_tick.2.1 0 = .ok (.aload_n 0, 1) := by decide +kernel
theorem dX6_tick_1 : decode mX6_tick.2.1 1 = .ok (.iload_n 1, 1) := by decide +kernel
theorem dX6_tick_2 : decode mX6_tick.2.1 2 = .ok (.iconst 1, 1) := by decide +kernel
theorem dX6_tick_3 : decode mX6_tick.2.1 3 = .ok (.bipush 100, 2) := by decide +kernel
theorem dX6_tick_5 : decode mX6_tick.2.1 5 = .ok (.invokestatic 50, 3) := by decide +kernel
theorem dX6_tick_8 : decode mX6_tick.2.1 8 = .ok (.ifCond .ne 7, 3) := by decide +kernel
theorem dX6_tick_11 : decode mX6_tick.2.1 11 = .ok (.iconst 1, 1) := by decide +kernel
theorem dX6_tick_12 : decode mX6_tick.2.1 12 = .ok (.goto 4, 3) := by decide +kernel
theorem dX6_tick_15 : decode mX6_tick.2.1 15 = .ok (.iconst 0, 1) := by decide +kernel
theorem dX6_tick_16 : decode mX6_tick.2.1 16 = .ok (.invokevirtual 62, 3) := by decide +kernel
theorem dX6_tick_19 : decode mX6_tick.2.1 19 = .ok (.ifCond .eq 5, 3) := by decide +kernel
theorem dX6_tick_22 : decode mX6_tick.2.1 22 = .ok (.iconst 0, 1) := by decide +kernel
theorem dX6_tick_23 : decode mX6_tick.2.1 23 = .ok (.ireturn, 1) := by decide +kernel
theorem dX6_tick_24 : decode mX6_tick.2.1 24 = .ok (.iconst 0, 1) := by decide +kernel
theorem dX6_tick_25 : decode mX6_tick.2.1 25 = .ok (.istore_n 2, 1) := by decide +kernel
theorem dX6_tick_26 : decode mX6_tick.2.1 26 = .ok (.iload_n 2, 1) := by decide +kernel
theorem dX6_tick_27 : decode mX6_tick.2.1 27 = .ok (.iload_n 1, 1) := by decide +kernel
theorem dX6_tick_28 : decode mX6_tick.2.1 28 = .ok (.if_icmp .ge 13, 3) := by decide +kernel
theorem dX6_tick_31 : decode mX6_tick.2.1 31 = .ok (.aload_n 0, 1) := by decide +kernel
theorem dX6_tick_32 : decode mX6_tick.2.1 32 = .ok (.invokevirtual 120, 3) := by decide +kernel
theorem dX6_tick_35 : decode mX6_tick.2.1 35 = .ok (.iinc 2 1, 3) := by decide +kernel
theorem dX6_tick_38 : decode mX6_tick.2.1 38 = .ok (.goto (-12), 3) := by decide +kernel
theorem dX6_tick_41 : decode mX6_tick.2.1 41 = .ok (.aload_n 0, 1) := by decide +kernel
theorem dX6_tick_42 : decode mX6_tick.2.1 42 = .ok (.getfield 114, 3) := by decide +kernel
theorem dX6_tick_45 : decode mX6_tick.2.1 45 = .ok (.ireturn, 1) := by decide +kernel
theorem dX6_gauge_0 : decode mX6_gauge.2.1 0 = .ok (.aload_n 0, 1) := by decide +kernel
theorem dX6_gauge_1 : decode mX6_gauge.2.1 1 = .ok (.iload_n 1, 1) := by decide +kernel
theorem dX6_gauge_2 : decode mX6_gauge.2.1 2 = .ok (.invokestatic 123, 3) := by decide +kernel
theorem dX6_gauge_5 : decode mX6_gauge.2.1 5 = .ok (.ifCond .eq 25, 3) := by decide +kernel
theorem dX6_gauge_8 : decode mX6_gauge.2.1 8 = .ok (.iload_n 2, 1) := by decide +kernel
theorem dX6_gauge_9 : decode mX6_gauge.2.1 9 = .ok (.iconst 0, 1) := by decide +kernel
theorem dX6_gauge_10 : decode mX6_gauge.2.1 10 = .ok (.sipush 20000, 3) := by decide +kernel
theorem dX6_gauge_13 : decode mX6_gauge.2.1 13 = .ok (.invokestatic 50, 3) := by decide +kernel
theorem dX6_gauge_16 : decode mX6_gauge.2.1 16 = .ok (.ifCond .eq 14, 3) := by decide +kernel
theorem dX6_gauge_19 : decode mX6_gauge.2.1 19 = .ok (.iload_n 3, 1) := by decide +kernel
theorem dX6_gauge_20 : decode mX6_gauge.2.1 20 = .ok (.iconst 0, 1) := by decide +kernel
theorem dX6_gauge_21 : decode mX6_gauge.2.1 21 = .ok (.sipush 20000, 3) := by decide +kernel
theorem dX6_gauge_24 : decode mX6_gauge.2.1 24 = .ok (.invokestatic 50, 3) := by decide +kernel
theorem dX6_gauge_27 : decode mX6_gauge.2.1 27 = .ok (.ifCond .ne 7, 3) := by decide +kernel
theorem dX6_gauge_30 : decode mX6_gauge.2.1 30 = .ok (.iconst 1, 1) := by decide +kernel
theorem dX6_gauge_31 : decode mX6_gauge.2.1 31 = .ok (.goto 4, 3) := by decide +kernel
theorem dX6_gauge_34 : decode mX6_gauge.2.1 34 = .ok (.iconst 0, 1) := by decide +kernel
theorem dX6_gauge_35 : decode mX6_gauge.2.1 35 = .ok (.invokevirtual 62, 3) := by decide +kernel
theorem dX6_gauge_38 : decode mX6_gauge.2.1 38 = .ok (.ifCond .eq 5, 3) := by decide +kernel
theorem dX6_gauge_41 : decode mX6_gauge.2.1 41 = .ok (.iconst 0, 1) := by decide +kernel
theorem dX6_gauge_42 : decode mX6_gauge.2.1 42 = .ok (.ireturn, 1) := by decide +kernel
theorem dX6_gauge_43 : decode mX6_gauge.2.1 43 = .ok (.aload_n 0, 1) := by decide +kernel
theorem dX6_gauge_44 : decode mX6_gauge.2.1 44 = .ok (.iload_n 1, 1) := by decide +kernel
theorem dX6_gauge_45 : decode mX6_gauge.2.1 45 = .ok (.bipush 12, 2) := by decide +kernel
theorem dX6_gauge_47 : decode mX6_gauge.2.1 47 = .ok (.invokevirtual 54, 3) := by decide +kernel
theorem dX6_gauge_50 : decode mX6_gauge.2.1 50 = .ok (.istore 4, 2) := by decide +kernel
theorem dX6_gauge_52 : decode mX6_gauge.2.1 52 = .ok (.iload 4, 2) := by decide +kernel
theorem dX6_gauge_54 : decode mX6_gauge.2.1 54 = .ok (.ifCond .lt 13, 3) := by decide +kernel
theorem dX6_gauge_57 : decode mX6_gauge.2.1 57 = .ok (.aload_n 0, 1) := by decide +kernel
theorem dX6_gauge_58 : decode mX6_gauge.2.1 58 = .ok (.getfield 22, 3) := by decide +kernel
theorem dX6_gauge_61 : decode mX6_gauge.2.1 61 = .ok (.iload 4, 2) := by decide +kernel
theorem dX6_gauge_63 : decode mX6_gauge.2.1 63 = .ok (.iaload, 1) := by decide +kernel
theorem dX6_gauge_64 : decode mX6_gauge.2.1 64 = .ok (.ifCond .ge 5, 3) := by decide +kernel
theorem dX6_gauge_67 : decode mX6_gauge.2.1 67 = .ok (.iconst 0, 1) := by decide +kernel
theorem dX6_gauge_68 : decode mX6_gauge.2.1 68 = .ok (.ireturn, 1) := by decide +kernel
theorem dX6_gauge_69 : decode mX6_gauge.2.1 69 = .ok (.aload_n 0, 1) := by decide +kernel
theorem dX6_gauge_70 : decode mX6_gauge.2.1 70 = .ok (.getfield 25, 3) := by decide +kernel
theorem dX6_gauge_73 : decode mX6_gauge.2.1 73 = .ok (.iload 4, 2) := by decide +kernel
theorem dX6_gauge_75 : decode mX6_gauge.2.1 75 = .ok (.iload_n 2, 1) := by decide +kernel
theorem dX6_gauge_76 : decode mX6_gauge.2.1 76 = .ok (.iastore, 1) := by decide +kernel
theorem dX6_gauge_77 : decode mX6_gauge.2.1 77 = .ok (.aload_n 0, 1) := by decide +kernel
theorem dX6_gauge_78 : decode mX6_gauge.2.1 78 = .ok (.getfield 28, 3) := by decide +kernel
theorem dX6_gauge_81 : decode mX6_gauge.2.1 81 = .ok (.iload 4, 2) := by decide +kernel
theorem dX6_gauge_83 : decode mX6_gauge.2.1 83 = .ok (.iload_n 3, 1) := by decide +kernel
theorem dX6_gauge_84 : decode mX6_gauge.2.1 84 = .ok (.iastore, 1) := by decide +kernel
theorem dX6_gauge_85 : decode mX6_gauge.2.1 85 = .ok (.iconst 1, 1) := by decide +kernel
theorem dX6_gauge_86 : decode mX6_gauge.2.1 86 = .ok (.ireturn, 1) := by decide +kernel
theorem dX6_wind_0 : decode mX6_wind.2.1 0 = .ok (.aload_n 0, 1) := by decide +kernel
theorem dX6_wind_1 : decode mX6_wind.2.1 1 = .ok (.iload_n 1, 1) := by decide +kernel
theorem dX6_wind_2 : decode mX6_wind.2.1 2 = .ok (.iconst 0, 1) := by decide +kernel
theorem dX6_wind_3 : decode mX6_wind.2.1 3 = .ok (.sipush 1000, 3) := by decide +kernel
theorem dX6_wind_6 : decode mX6_wind.2.1 6 = .ok (.invokestatic 50, 3) := by decide +kernel
theorem dX6_wind_9 : decode mX6_wind.2.1 9 = .ok (.ifCond .ne 7, 3) := by decide +kernel
theorem dX6_wind_12 : decode mX6_wind.2.1 12 = .ok (.iconst 1, 1) := by decide +kernel
theorem dX6_wind_13 : decode mX6_wind.2.1 13 = .ok (.goto 4, 3) := by decide +kernel
theorem dX6_wind_16 : decode mX6_wind.2.1 16 = .ok (.iconst 0, 1) := by decide +kernel
theorem dX6_wind_17 : decode mX6_wind.2.1 17 = .ok (.invokevirtual 62, 3) := by decide +kernel
theorem dX6_wind_20 : decode mX6_wind.2.1 20 = .ok (.ifCond .eq 4, 3) := by decide +kernel
theorem dX6_wind_23 : decode mX6_wind.2.1 23 = .ok (.return_, 1) := by decide +kernel
theorem dX6_wind_24 : decode mX6_wind.2.1 24 = .ok (.aload_n 0, 1) := by decide +kernel
theorem dX6_wind_25 : decode mX6_wind.2.1 25 = .ok (.getfield 40, 3) := by decide +kernel
theorem dX6_wind_28 : decode mX6_wind.2.1 28 = .ok (.aload_n 0, 1) := by decide +kernel
theorem dX6_wind_29 : decode mX6_wind.2.1 29 = .ok (.getfield 82, 3) := by decide +kernel
theorem dX6_wind_32 : decode mX6_wind.2.1 32 = .ok (.iconst 5, 1) := by decide +kernel
theorem dX6_wind_33 : decode mX6_wind.2.1 33 = .ok (.irem, 1) := by decide +kernel
theorem dX6_wind_34 : decode mX6_wind.2.1 34 = .ok (.iload_n 1, 1) := by decide +kernel
theorem dX6_wind_35 : decode mX6_wind.2.1 35 = .ok (.iastore, 1) := by decide +kernel
theorem dX6_wind_36 : decode mX6_wind.2.1 36 = .ok (.aload_n 0, 1) := by decide +kernel
theorem dX6_wind_37 : decode mX6_wind.2.1 37 = .ok (.dup, 1) := by decide +kernel
theorem dX6_wind_38 : decode mX6_wind.2.1 38 = .ok (.getfield 82, 3) := by decide +kernel
theorem dX6_wind_41 : decode mX6_wind.2.1 41 = .ok (.iconst 1, 1) := by decide +kernel
theorem dX6_wind_42 : decode mX6_wind.2.1 42 = .ok (.iadd, 1) := by decide +kernel
theorem dX6_wind_43 : decode mX6_wind.2.1 43 = .ok (.putfield 82, 3) := by decide +kernel
theorem dX6_wind_46 : decode mX6_wind.2.1 46 = .ok (.return_, 1) := by decide +kernel
