theorem d_D_init_0 : decode b_D_init 0 = .ok (.aload_n 0, 1) := by decide +kernel
theorem d_D_init_1 : decode b_D_init 1 = .ok (.invokespecial 3, 3) := by decide +kernel
theorem d_D_init_4 : decode b_D_init 4 = .ok (.aload_n 0, 1) := by decide +kernel
theorem d_D_init_5 : decode b_D_init 5 = .ok (.iload_n 1, 1) := by decide +kernel
theorem d_D_init_6 : decode b_D_init 6 = .ok (.putfield 9, 3) := by decide +kernel
theorem d_D_init_9 : decode b_D_init 9 = .ok (.aload_n 0, 1) := by decide +kernel
theorem d_D_init_10 : decode b_D_init 10 = .ok (.aload_n 2, 1) := by decide +kernel
theorem d_D_init_11 : decode b_D_init 11 = .ok (.putfield 15, 3) := by decide +kernel
theorem d_D_init_14 : decode b_D_init 14 = .ok (.aload_n 0, 1) := by decide +kernel
theorem d_D_init_15 : decode b_D_init 15 = .ok (.aload_n 3, 1) := by decide +kernel
theorem d_D_init_16 : decode b_D_init 16 = .ok (.putfield 19, 3) := by decide +kernel
theorem d_D_init_19 : decode b_D_init 19 = .ok (.aload_n 0, 1) := by decide +kernel
theorem d_D_init_20 : decode b_D_init 20 = .ok (.iload 4, 2) := by decide +kernel
theorem d_D_init_22 : decode b_D_init 22 = .ok (.putfield 22, 3) := by decide +kernel
theorem d_D_init_25 : decode b_D_init 25 = .ok (.aload_n 0, 1) := by decide +kernel
theorem d_D_init_26 : decode b_D_init 26 = .ok (.iload 5, 2) := by decide +kernel
theorem d_D_init_28 : decode b_D_init 28 = .ok (.putfield 25, 3) := by decide +kernel
theorem d_D_init_31 : decode b_D_init 31 = .ok (.aload_n 0, 1) := by decide +kernel
theorem d_D_init_32 : decode b_D_init 32 = .ok (.iload 6, 2) := by decide +kernel
theorem d_D_init_34 : decode b_D_init 34 = .ok (.putfield 28, 3) := by decide +kernel
theorem d_D_init_37 : decode b_D_init 37 = .ok (.return_, 1) := by decide +kernel
theorem d_D_bitAt_0 : decode b_D_bitAt 0 = .ok (.aload_n 0, 1) := by decide +kernel
theorem d_D_bitAt_1 : decode b_D_bitAt 1 = .ok (.getfield 9, 3) := by decide +kernel
theorem d_D_bitAt_4 : decode b_D_bitAt 4 = .ok (.tableswitch 184 0 6 #[44, 62, 80, 98, 109, 140, 158], 44) := by decide +kernel
theorem d_D_bitAt_48 : decode b_D_bitAt 48 = .ok (.aload_n 0, 1) := by decide +kernel
theorem d_D_bitAt_49 : decode b_D_bitAt 49 = .ok (.getfield 15, 3) := by decide +kernel
theorem d_D_bitAt_52 : decode b_D_bitAt 52 = .ok (.iload_n 1, 1) := by decide +kernel
theorem d_D_bitAt_53 : decode b_D_bitAt 53 = .ok (.invokevirtual 31, 3) := by decide +kernel
theorem d_D_bitAt_56 : decode b_D_bitAt 56 = .ok (.aload_n 0, 1) := by decide +kernel
theorem d_D_bitAt_57 : decode b_D_bitAt 57 = .ok (.getfield 19, 3) := by decide +kernel
theorem d_D_bitAt_60 : decode b_D_bitAt 60 = .ok (.iload_n 1, 1) := by decide +kernel
theorem d_D_bitAt_61 : decode b_D_bitAt 61 = .ok (.invokevirtual 31, 3) := by decide +kernel
theorem d_D_bitAt_64 : decode b_D_bitAt 64 = .ok (.iand, 1) := by decide +kernel
theorem d_D_bitAt_65 : decode b_D_bitAt 65 = .ok (.ireturn, 1) := by decide +kernel
theorem d_D_bitAt_66 : decode b_D_bitAt 66 = .ok (.aload_n 0, 1) := by decide +kernel
theorem d_D_bitAt_67 : decode b_D_bitAt 67 = .ok (.getfield 15, 3) := by decide +kernel
theorem d_D_bitAt_70 : decode b_D_bitAt 70 = .ok (.iload_n 1, 1) := by decide +kernel
theorem d_D_bitAt_71 : decode b_D_bitAt 71 = .ok (.invokevirtual 31, 3) := by decide +kernel
theorem d_D_bitAt_74 : decode b_D_bitAt 74 = .ok (.aload_n 0, 1) := by decide +kernel
theorem d_D_bitAt_75 : decode b_D_bitAt 75 = .ok (.getfield 19, 3) := by decide +kernel
theorem d_D_bitAt_78 : decode b_D_bitAt 78 = .ok (.iload_n 1, 1) := by decide +kernel
theorem d_D_bitAt_79 : decode b_D_bitAt 79 = .ok (.invokevirtual 31, 3) := by decide +kernel
theorem d_D_bitAt_82 : decode b_D_bitAt 82 = .ok (.ior, 1) := by decide +kernel
theorem d_D_bitAt_83 : decode b_D_bitAt 83 = .ok (.ireturn, 1) := by decide +kernel
theorem d_D_bitAt_84 : decode b_D_bitAt 84 = .ok (.aload_n 0, 1) := by decide +kernel
theorem d_D_bitAt_85 : decode b_D_bitAt 85 = .ok (.getfield 15, 3) := by decide +kernel
theorem d_D_bitAt_88 : decode b_D_bitAt 88 = .ok (.iload_n 1, 1) := by decide +kernel
theorem d_D_bitAt_89 : decode b_D_bitAt 89 = .ok (.invokevirtual 31, 3) := by decide +kernel
theorem d_D_bitAt_92 : decode b_D_bitAt 92 = .ok (.aload_n 0, 1) := by decide +kernel
theorem d_D_bitAt_93 : decode b_D_bitAt 93 = .ok (.getfield 19, 3) := by decide +kernel
theorem d_D_bitAt_96 : decode b_D_bitAt 96 = .ok (.iload_n 1, 1) := by decide +kernel
theorem d_D_bitAt_97 : decode b_D_bitAt 97 = .ok (.invokevirtual 31, 3) := by decide +kernel
theorem d_D_bitAt_100 : decode b_D_bitAt 100 = .ok (.ixor, 1) := by decide +kernel
theorem d_D_bitAt_101 : decode b_D_bitAt 101 = .ok (.ireturn, 1) := by decide +kernel
theorem d_D_bitAt_102 : decode b_D_bitAt 102 = .ok (.iconst 1, 1) := by decide +kernel
theorem d_D_bitAt_103 : decode b_D_bitAt 103 = .ok (.aload_n 0, 1) := by decide +kernel
theorem d_D_bitAt_104 : decode b_D_bitAt 104 = .ok (.getfield 15, 3) := by decide +kernel
theorem d_D_bitAt_107 : decode b_D_bitAt 107 = .ok (.iload_n 1, 1) := by decide +kernel
theorem d_D_bitAt_108 : decode b_D_bitAt 108 = .ok (.invokevirtual 31, 3) := by decide +kernel
theorem d_D_bitAt_111 : decode b_D_bitAt 111 = .ok (.isub, 1) := by decide +kernel
theorem d_D_bitAt_112 : decode b_D_bitAt 112 = .ok (.ireturn, 1) := by decide +kernel
theorem d_D_bitAt_113 : decode b_D_bitAt 113 = .ok (.aload_n 0, 1) := by decide +kernel
theorem d_D_bitAt_114 : decode b_D_bitAt 114 = .ok (.getfield 15, 3) := by decide +kernel
theorem d_D_bitAt_117 : decode b_D_bitAt 117 = .ok (.iload_n 1, 1) := by decide +kernel
theorem d_D_bitAt_118 : decode b_D_bitAt 118 = .ok (.invokevirtual 31, 3) := by decide +kernel
theorem d_D_bitAt_121 : decode b_D_bitAt 121 = .ok (.ifCond .ne 7, 3) := by decide +kernel
theorem d_D_bitAt_124 : decode b_D_bitAt 124 = .ok (.iconst 0, 1) := by decide +kernel
theorem d_D_bitAt_125 : decode b_D_bitAt 125 = .ok (.goto 18, 3) := by decide +kernel
theorem d_D_bitAt_128 : decode b_D_bitAt 128 = .ok (.aload_n 0, 1) := by decide +kernel
theorem d_D_bitAt_129 : decode b_D_bitAt 129 = .ok (.getfield 19, 3) := by decide +kernel
theorem d_D_bitAt_132 : decode b_D_bitAt 132 = .ok (.aload_n 0, 1) := by decide +kernel
theorem d_D_bitAt_133 : decode b_D_bitAt 133 = .ok (.getfield 15, 3) := by decide +kernel
theorem d_D_bitAt_136 : decode b_D_bitAt 136 = .ok (.iload_n 1, 1) := by decide +kernel
theorem d_D_bitAt_137 : decode b_D_bitAt 137 = .ok (.invokevirtual 37, 3) := by decide +kernel
theorem d_D_bitAt_140 : decode b_D_bitAt 140 = .ok (.invokevirtual 31, 3) := by decide +kernel
theorem d_D_bitAt_143 : decode b_D_bitAt 143 = .ok (.ireturn, 1) := by decide +kernel
theorem d_D_bitAt_144 : decode b_D_bitAt 144 = .ok (.aload_n 0, 1) := by decide +kernel
theorem d_D_bitAt_145 : decode b_D_bitAt 145 = .ok (.getfield 15, 3) := by decide +kernel
theorem d_D_bitAt_148 : decode b_D_bitAt 148 = .ok (.aload_n 0, 1) := by decide +kernel
theorem d_D_bitAt_149 : decode b_D_bitAt 149 = .ok (.getfield 19, 3) := by decide +kernel
theorem d_D_bitAt_152 : decode b_D_bitAt 152 = .ok (.iload_n 1, 1) := by decide +kernel
theorem d_D_bitAt_153 : decode b_D_bitAt 153 = .ok (.iconst 1, 1) := by decide +kernel
theorem d_D_bitAt_154 : decode b_D_bitAt 154 = .ok (.iadd, 1) := by decide +kernel
theorem d_D_bitAt_155 : decode b_D_bitAt 155 = .ok (.invokevirtual 40, 3) := by decide +kernel
theorem d_D_bitAt_158 : decode b_D_bitAt 158 = .ok (.invokevirtual 31, 3) := by decide +kernel
theorem d_D_bitAt_161 : decode b_D_bitAt 161 = .ok (.ireturn, 1) := by decide +kernel
theorem d_D_bitAt_162 : decode b_D_bitAt 162 = .ok (.iload_n 1, 1) := by decide +kernel
theorem d_D_bitAt_163 : decode b_D_bitAt 163 = .ok (.aload_n 0, 1) := by decide +kernel
theorem d_D_bitAt_164 : decode b_D_bitAt 164 = .ok (.getfield 22, 3) := by decide +kernel
theorem d_D_bitAt_167 : decode b_D_bitAt 167 = .ok (.if_icmp .ge 7, 3) := by decide +kernel
theorem d_D_bitAt_170 : decode b_D_bitAt 170 = .ok (.iconst 0, 1) := by decide +kernel
theorem d_D_bitAt_171 : decode b_D_bitAt 171 = .ok (.goto 16, 3) := by decide +kernel
theorem d_D_bitAt_174 : decode b_D_bitAt 174 = .ok (.aload_n 0, 1) := by decide +kernel
theorem d_D_bitAt_175 : decode b_D_bitAt 175 = .ok (.getfield 15, 3) := by decide +kernel
theorem d_D_bitAt_178 : decode b_D_bitAt 178 = .ok (.iload_n 1, 1) := by decide +kernel
theorem d_D_bitAt_179 : decode b_D_bitAt 179 = .ok (.aload_n 0, 1) := by decide +kernel
theorem d_D_bitAt_180 : decode b_D_bitAt 180 = .ok (.getfield 22, 3) := by decide +kernel
theorem d_D_bitAt_183 : decode b_D_bitAt 183 = .ok (.isub, 1) := by decide +kernel
theorem d_D_bitAt_184 : decode b_D_bitAt 184 = .ok (.invokevirtual 31, 3) := by decide +kernel
theorem d_D_bitAt_187 : decode b_D_bitAt 187 = .ok (.ireturn, 1) := by decide +kernel
theorem d_D_bitAt_188 : decode b_D_bitAt 188 = .ok (.aload_n 0, 1) := by decide +kernel
theorem d_D_bitAt_189 : decode b_D_bitAt 189 = .ok (.getfield 15, 3) := by decide +kernel
theorem d_D_bitAt_192 : decode b_D_bitAt 192 = .ok (.iload_n 1, 1) := by decide +kernel
theorem d_D_bitAt_193 : decode b_D_bitAt 193 = .ok (.invokevirtual 31, 3) := by decide +kernel
theorem d_D_bitAt_196 : decode b_D_bitAt 196 = .ok (.aload_n 0, 1) := by decide +kernel
theorem d_D_bitAt_197 : decode b_D_bitAt 197 = .ok (.getfield 15, 3) := by decide +kernel
theorem d_D_bitAt_200 : decode b_D_bitAt 200 = .ok (.iload_n 1, 1) := by decide +kernel
theorem d_D_bitAt_201 : decode b_D_bitAt 201 = .ok (.invokevirtual 37, 3) := by decide +kernel
theorem d_D_bitAt_204 : decode b_D_bitAt 204 = .ok (.iconst (-1), 1) := by decide +kernel
theorem d_D_bitAt_205 : decode b_D_bitAt 205 = .ok (.ixor, 1) := by decide +kernel
theorem d_D_bitAt_206 : decode b_D_bitAt 206 = .ok (.iand, 1) := by decide +kernel
theorem d_D_bitAt_207 : decode b_D_bitAt 207 = .ok (.ireturn, 1) := by decide +kernel
theorem d_D_bits_0 : decode b_D_bits 0 = .ok (.lconst 0, 1) := by decide +kernel
theorem d_D_bits_1 : decode b_D_bits 1 = .ok (.lstore_n 3, 1) := by decide +kernel
theorem d_D_bits_2 : decode b_D_bits 2 = .ok (.iconst 0, 1) := by decide +kernel
theorem d_D_bits_3 : decode b_D_bits 3 = .ok (.istore 5, 2) := by decide +kernel
theorem d_D_bits_5 : decode b_D_bits 5 = .ok (.iload 5, 2) := by decide +kernel
theorem d_D_bits_7 : decode b_D_bits 7 = .ok (.iload_n 2, 1) := by decide +kernel
theorem d_D_bits_8 : decode b_D_bits 8 = .ok (.if_icmp .ge 24, 3) := by decide +kernel
theorem d_D_bits_11 : decode b_D_bits 11 = .ok (.lload_n 3, 1) := by decide +kernel
theorem d_D_bits_12 : decode b_D_bits 12 = .ok (.aload_n 0, 1) := by decide +kernel
theorem d_D_bits_13 : decode b_D_bits 13 = .ok (.iload_n 1, 1) := by decide +kernel
theorem d_D_bits_14 : decode b_D_bits 14 = .ok (.iload 5, 2) := by decide +kernel
theorem d_D_bits_16 : decode b_D_bits 16 = .ok (.iadd, 1) := by decide +kernel
theorem d_D_bits_17 : decode b_D_bits 17 = .ok (.invokevirtual 43, 3) := by decide +kernel
theorem d_D_bits_20 : decode b_D_bits 20 = .ok (.i2l, 1) := by decide +kernel
theorem d_D_bits_21 : decode b_D_bits 21 = .ok (.iload 5, 2) := by decide +kernel
theorem d_D_bits_23 : decode b_D_bits 23 = .ok (.lshl, 1) := by decide +kernel
theorem d_D_bits_24 : decode b_D_bits 24 = .ok (.lor, 1) := by decide +kernel
theorem d_D_bits_25 : decode b_D_bits 25 = .ok (.lstore_n 3, 1) := by decide +kernel
theorem d_D_bits_26 : decode b_D_bits 26 = .ok (.iinc 5 1, 3) := by decide +kernel
theorem d_D_bits_29 : decode b_D_bits 29 = .ok (.goto (-24), 3) := by decide +kernel
theorem d_D_bits_32 : decode b_D_bits 32 = .ok (.lload_n 3, 1) := by decide +kernel
theorem d_D_bits_33 : decode b_D_bits 33 = .ok (.lreturn, 1) := by decide +kernel
