theorem dX7_init_0 : decode cX7_init 0 = .ok (.aload_n 0, 1) := by decide +kernel
theorem dX7_init_1 : decode cX7_init 1 = .ok (.invokespecial 1, 3) := by decide +kernel
theorem dX7_init_4 : decode cX7_init 4 = .ok (.aload_n 0, 1) := by decide +kernel
theorem dX7_init_5 : decode cX7_init 5 = .ok (.new 7, 3) := by decide +kernel
theorem dX7_init_8 : decode cX7_init 8 = .ok (.dup, 1) := by decide +kernel
theorem dX7_init_9 : decode cX7_init 9 = .ok (.invokespecial 9, 3) := by decide +kernel
theorem dX7_init_12 : decode cX7_init 12 = .ok (.putfield 10, 3) := by decide +kernel
theorem dX7_init_15 : decode cX7_init 15 = .ok (.aload_n 0, 1) := by decide +kernel
theorem dX7_init_16 : decode cX7_init 16 = .ok (.new 7, 3) := by decide +kernel
theorem dX7_init_19 : decode cX7_init 19 = .ok (.dup, 1) := by decide +kernel
theorem dX7_init_20 : decode cX7_init 20 = .ok (.invokespecial 9, 3) := by decide +kernel
theorem dX7_init_23 : decode cX7_init 23 = .ok (.putfield 16, 3) := by decide +kernel
theorem dX7_init_26 : decode cX7_init 26 = .ok (.aload_n 0, 1) := by decide +kernel
theorem dX7_init_27 : decode cX7_init 27 = .ok (.iconst 0, 1) := by decide +kernel
theorem dX7_init_28 : decode cX7_init 28 = .ok (.putfield 19, 3) := by decide +kernel
theorem dX7_init_31 : decode cX7_init 31 = .ok (.aload_n 0, 1) := by decide +kernel
theorem dX7_init_32 : decode cX7_init 32 = .ok (.new 23, 3) := by decide +kernel
theorem dX7_init_35 : decode cX7_init 35 = .ok (.dup, 1) := by decide +kernel
theorem dX7_init_36 : decode cX7_init 36 = .ok (.invokespecial 25, 3) := by decide +kernel
theorem dX7_init_39 : decode cX7_init 39 = .ok (.putfield 26, 3) := by decide +kernel
theorem dX7_init_42 : decode cX7_init 42 = .ok (.aload_n 0, 1) := by decide +kernel
theorem dX7_init_43 : decode cX7_init 43 = .ok (.new 23, 3) := by decide +kernel
theorem dX7_init_46 : decode cX7_init 46 = .ok (.dup, 1) := by decide +kernel
theorem dX7_init_47 : decode cX7_init 47 = .ok (.invokespecial 25, 3) := by decide +kernel
theorem dX7_init_50 : decode cX7_init 50 = .ok (.putfield 30, 3) := by decide +kernel
theorem dX7_init_53 : decode cX7_init 53 = .ok (.aload_n 0, 1) := by decide +kernel
theorem dX7_init_54 : decode cX7_init 54 = .ok (.new 33, 3) := by decide +kernel
theorem dX7_init_57 : decode cX7_init 57 = .ok (.dup, 1) := by decide +kernel
theorem dX7_init_58 : decode cX7_init 58 = .ok (.invokespecial 35, 3) := by decide +kernel
theorem dX7_init_61 : decode cX7_init 61 = .ok (.putfield 36, 3) := by decide +kernel
theorem dX7_init_64 : decode cX7_init 64 = .ok (.aload_n 0, 1) := by decide +kernel
theorem dX7_init_65 : decode cX7_init 65 = .ok (.new 40, 3) := by decide +kernel
theorem dX7_init_68 : decode cX7_init 68 = .ok (.dup, 1) := by decide +kernel
theorem dX7_init_69 : decode cX7_init 69 = .ok (.invokespecial 42, 3) := by decide +kernel
theorem dX7_init_72 : decode cX7_init 72 = .ok (.putfield 43, 3) := by decide +kernel
theorem dX7_init_75 : decode cX7_init 75 = .ok (.aload_n 0, 1) := by decide +kernel
theorem dX7_init_76 : decode cX7_init 76 = .ok (.bipush 6, 2) := by decide +kernel
theorem dX7_init_78 : decode cX7_init 78 = .ok (.anewarray 47, 3) := by decide +kernel
theorem dX7_init_81 : decode cX7_init 81 = .ok (.putfield 49, 3) := by decide +kernel
theorem dX7_init_84 : decode cX7_init 84 = .ok (.aload_n 0, 1) := by decide +kernel
theorem dX7_init_85 : decode cX7_init 85 = .ok (.iconst 0, 1) := by decide +kernel
theorem dX7_init_86 : decode cX7_init 86 = .ok (.putfield 53, 3) := by decide +kernel
theorem dX7_init_89 : decode cX7_init 89 = .ok (.aload_n 0, 1) := by decide +kernel
theorem dX7_init_90 : decode cX7_init 90 = .ok (.bipush 6, 2) := by decide +kernel
theorem dX7_init_92 : decode cX7_init 92 = .ok (.newarray .int, 2) := by decide +kernel
theorem dX7_init_94 : decode cX7_init 94 = .ok (.putfield 59, 3) := by decide +kernel
theorem dX7_init_97 : decode cX7_init 97 = .ok (.aload_n 0, 1) := by decide +kernel
theorem dX7_init_98 : decode cX7_init 98 = .ok (.iconst 4, 1) := by decide +kernel
theorem dX7_init_99 : decode cX7_init 99 = .ok (.anewarray 63, 3) := by decide +kernel
theorem dX7_init_102 : decode cX7_init 102 = .ok (.putfield 65, 3) := by decide +kernel
theorem dX7_init_105 : decode cX7_init 105 = .ok (.aload_n 0, 1) := by decide +kernel
theorem dX7_init_106 : decode cX7_init 106 = .ok (.bipush 6, 2) := by decide +kernel
theorem dX7_init_108 : decode cX7_init 108 = .ok (.newarray .int, 2) := by decide +kernel
theorem dX7_init_110 : decode cX7_init 110 = .ok (.putfield 69, 3) := by decide +kernel
theorem dX7_init_113 : decode cX7_init 113 = .ok (.aload_n 0, 1) := by decide +kernel
theorem dX7_init_114 : decode cX7_init 114 = .ok (.iconst 4, 1) := by decide +kernel
theorem dX7_init_115 : decode cX7_init 115 = .ok (.newarray .int, 2) := by decide +kernel
theorem dX7_init_117 : decode cX7_init 117 = .ok (.putfield 72, 3) := by decide +kernel
theorem dX7_init_120 : decode cX7_init 120 = .ok (.aload_n 0, 1) := by decide +kernel
theorem dX7_init_121 : decode cX7_init 121 = .ok (.bipush 36, 2) := by decide +kernel
theorem dX7_init_123 : decode cX7_init 123 = .ok (.newarray .int, 2) := by decide +kernel
theorem dX7_init_125 : decode cX7_init 125 = .ok (.putfield 75, 3) := by decide +kernel
theorem dX7_init_128 : decode cX7_init 128 = .ok (.iconst 0, 1) := by decide +kernel
theorem dX7_init_129 : decode cX7_init 129 = .ok (.istore_n 1, 1) := by decide +kernel
theorem dX7_init_130 : decode cX7_init 130 = .ok (.iload_n 1, 1) := by decide +kernel
theorem dX7_init_131 : decode cX7_init 131 = .ok (.bipush 6, 2) := by decide +kernel
theorem dX7_init_133 : decode cX7_init 133 = .ok (.if_icmp .ge 22, 3) := by decide +kernel
theorem dX7_init_136 : decode cX7_init 136 = .ok (.aload_n 0, 1) := by decide +kernel
theorem dX7_init_137 : decode cX7_init 137 = .ok (.getfield 49, 3) := by decide +kernel
theorem dX7_init_140 : decode cX7_init 140 = .ok (.iload_n 1, 1) := by decide +kernel
theorem dX7_init_141 : decode cX7_init 141 = .ok (.new 47, 3) := by decide +kernel
theorem dX7_init_144 : decode cX7_init 144 = .ok (.dup, 1) := by decide +kernel
theorem dX7_init_145 : decode cX7_init 145 = .ok (.invokespecial 78, 3) := by decide +kernel
theorem dX7_init_148 : decode cX7_init 148 = .ok (.aastore, 1) := by decide +kernel
theorem dX7_init_149 : decode cX7_init 149 = .ok (.iinc 1 1, 3) := by decide +kernel
theorem dX7_init_152 : decode cX7_init 152 = .ok (.goto (-22), 3) := by decide +kernel
theorem dX7_init_155 : decode cX7_init 155 = .ok (.iconst 0, 1) := by decide +kernel
theorem dX7_init_156 : decode cX7_init 156 = .ok (.istore_n 1, 1) := by decide +kernel
theorem dX7_init_157 : decode cX7_init 157 = .ok (.iload_n 1, 1) := by decide +kernel
theorem dX7_init_158 : decode cX7_init 158 = .ok (.iconst 4, 1) := by decide +kernel
theorem dX7_init_159 : decode cX7_init 159 = .ok (.if_icmp .ge 22, 3) := by decide +kernel
theorem dX7_init_162 : decode cX7_init 162 = .ok (.aload_n 0, 1) := by decide +kernel
theorem dX7_init_163 : decode cX7_init 163 = .ok (.getfield 65, 3) := by decide +kernel
theorem dX7_init_166 : decode cX7_init 166 = .ok (.iload_n 1, 1) := by decide +kernel
theorem dX7_init_167 : decode cX7_init 167 = .ok (.new 63, 3) := by decide +kernel
theorem dX7_init_170 : decode cX7_init 170 = .ok (.dup, 1) := by decide +kernel
theorem dX7_init_171 : decode cX7_init 171 = .ok (.invokespecial 79, 3) := by decide +kernel
theorem dX7_init_174 : decode cX7_init 174 = .ok (.aastore, 1) := by decide +kernel
theorem dX7_init_175 : decode cX7_init 175 = .ok (.iinc 1 1, 3) := by decide +kernel
theorem dX7_init_178 : decode cX7_init 178 = .ok (.goto (-21), 3) := by decide +kernel
theorem dX7_init_181 : decode cX7_init 181 = .ok (.iconst 0, 1) := by decide +kernel
theorem dX7_init_182 : decode cX7_init 182 = .ok (.istore_n 1, 1) := by decide +kernel
theorem dX7_init_183 : decode cX7_init 183 = .ok (.iload_n 1, 1) := by decide +kernel
theorem dX7_init_184 : decode cX7_init 184 = .ok (.ldc 80, 2) := by decide +kernel
theorem dX7_init_186 : decode cX7_init 186 = .ok (.invokevirtual 82, 3) := by decide +kernel
theorem dX7_init_189 : decode cX7_init 189 = .ok (.if_icmp .ge 22, 3) := by decide +kernel
theorem dX7_init_192 : decode cX7_init 192 = .ok (.aload_n 0, 1) := by decide +kernel
theorem dX7_init_193 : decode cX7_init 193 = .ok (.getfield 43, 3) := by decide +kernel
theorem dX7_init_196 : decode cX7_init 196 = .ok (.ldc 80, 2) := by decide +kernel
theorem dX7_init_198 : decode cX7_init 198 = .ok (.iload_n 1, 1) := by decide +kernel
theorem dX7_init_199 : decode cX7_init 199 = .ok (.invokevirtual 88, 3) := by decide +kernel
theorem dX7_init_202 : decode cX7_init 202 = .ok (.invokevirtual 92, 3) := by decide +kernel
theorem dX7_init_205 : decode cX7_init 205 = .ok (.iinc 1 1, 3) := by decide +kernel
theorem dX7_init_208 : decode cX7_init 208 = .ok (.goto (-25), 3) := by decide +kernel
theorem dX7_init_211 : decode cX7_init 211 = .ok (.aload_n 0, 1) := by decide +kernel
theorem dX7_init_212 : decode cX7_init 212 = .ok (.getfield 43, 3) := by decide +kernel
theorem dX7_init_215 : decode cX7_init 215 = .ok (.aload_n 0, 1) := by decide +kernel
theorem dX7_init_216 : decode cX7_init 216 = .ok (.getfield 49, 3) := by decide +kernel
theorem dX7_init_219 : decode cX7_init 219 = .ok (.iconst 0, 1) := by decide +kernel
theorem dX7_init_220 : decode cX7_init 220 = .ok (.aaload, 1) := by decide +kernel
theorem dX7_init_221 : decode cX7_init 221 = .ok (.invokevirtual 96, 3) := by decide +kernel
theorem dX7_init_224 : decode cX7_init 224 = .ok (.pop, 1) := by decide +kernel
theorem dX7_init_225 : decode cX7_init 225 = .ok (.aload_n 0, 1) := by decide +kernel
theorem dX7_init_226 : decode cX7_init 226 = .ok (.iconst 1, 1) := by decide +kernel
theorem dX7_init_227 : decode cX7_init 227 = .ok (.putfield 53, 3) := by decide +kernel
theorem dX7_init_230 : decode cX7_init 230 = .ok (.return_, 1) := by decide +kernel
theorem dX7_dog_0 : decode cX7_dog 0 = .ok (.iload_n 1, 1) := by decide +kernel
theorem dX7_dog_1 : decode cX7_dog 1 = .ok (.iconst 0, 1) := by decide +kernel
theorem dX7_dog_2 : decode cX7_dog 2 = .ok (.iconst 5, 1) := by decide +kernel
theorem dX7_dog_3 : decode cX7_dog 3 = .ok (.invokestatic 100, 3) := by decide +kernel
theorem dX7_dog_6 : decode cX7_dog 6 = .ok (.ifCond .eq 24, 3) := by decide +kernel
theorem dX7_dog_9 : decode cX7_dog 9 = .ok (.iload_n 2, 1) := by decide +kernel
theorem dX7_dog_10 : decode cX7_dog 10 = .ok (.bipush 10, 2) := by decide +kernel
theorem dX7_dog_12 : decode cX7_dog 12 = .ok (.bipush 99, 2) := by decide +kernel
theorem dX7_dog_14 : decode cX7_dog 14 = .ok (.invokestatic 100, 3) := by decide +kernel
theorem dX7_dog_17 : decode cX7_dog 17 = .ok (.ifCond .eq 13, 3) := by decide +kernel
theorem dX7_dog_20 : decode cX7_dog 20 = .ok (.iload_n 3, 1) := by decide +kernel
theorem dX7_dog_21 : decode cX7_dog 21 = .ok (.iconst 0, 1) := by decide +kernel
theorem dX7_dog_22 : decode cX7_dog 22 = .ok (.bipush 99, 2) := by decide +kernel
theorem dX7_dog_24 : decode cX7_dog 24 = .ok (.invokestatic 100, 3) := by decide +kernel
theorem dX7_dog_27 : decode cX7_dog 27 = .ok (.ifCond .ne 6, 3) := by decide +kernel
theorem dX7_dog_30 : decode cX7_dog 30 = .ok (.bipush (-2), 2) := by decide +kernel
theorem dX7_dog_32 : decode cX7_dog 32 = .ok (.ireturn, 1) := by decide +kernel
theorem dX7_dog_33 : decode cX7_dog 33 = .ok (.aload_n 0, 1) := by decide +kernel
theorem dX7_dog_34 : decode cX7_dog 34 = .ok (.getfield 10, 3) := by decide +kernel
theorem dX7_dog_37 : decode cX7_dog 37 = .ok (.getfield 104, 3) := by decide +kernel
theorem dX7_dog_40 : decode cX7_dog 40 = .ok (.getfield 107, 3) := by decide +kernel
theorem dX7_dog_43 : decode cX7_dog 43 = .ok (.ifCond .le 6, 3) := by decide +kernel
theorem dX7_dog_46 : decode cX7_dog 46 = .ok (.bipush (-3), 2) := by decide +kernel
theorem dX7_dog_48 : decode cX7_dog 48 = .ok (.ireturn, 1) := by decide +kernel
theorem dX7_dog_49 : decode cX7_dog 49 = .ok (.aload_n 0, 1) := by decide +kernel
theorem dX7_dog_50 : decode cX7_dog 50 = .ok (.getfield 10, 3) := by decide +kernel
theorem dX7_dog_53 : decode cX7_dog 53 = .ok (.getfield 110, 3) := by decide +kernel
theorem dX7_dog_56 : decode cX7_dog 56 = .ok (.bipush 6, 2) := by decide +kernel
theorem dX7_dog_58 : decode cX7_dog 58 = .ok (.if_icmp .lt 6, 3) := by decide +kernel
theorem dX7_dog_61 : decode cX7_dog 61 = .ok (.bipush (-4), 2) := by decide +kernel
theorem dX7_dog_63 : decode cX7_dog 63 = .ok (.ireturn, 1) := by decide +kernel
theorem dX7_dog_64 : decode cX7_dog 64 = .ok (.aload_n 0, 1) := by decide +kernel
theorem dX7_dog_65 : decode cX7_dog 65 = .ok (.getfield 10, 3) := by decide +kernel
theorem dX7_dog_68 : decode cX7_dog 68 = .ok (.iload_n 1, 1) := by decide +kernel
theorem dX7_dog_69 : decode cX7_dog 69 = .ok (.iload_n 2, 1) := by decide +kernel
theorem dX7_dog_70 : decode cX7_dog 70 = .ok (.bipush 10, 2) := by decide +kernel
theorem dX7_dog_72 : decode cX7_dog 72 = .ok (.idiv, 1) := by decide +kernel
theorem dX7_dog_73 : decode cX7_dog 73 = .ok (.iload_n 2, 1) := by decide +kernel
theorem dX7_dog_74 : decode cX7_dog 74 = .ok (.bipush 10, 2) := by decide +kernel
theorem dX7_dog_76 : decode cX7_dog 76 = .ok (.irem, 1) := by decide +kernel
theorem dX7_dog_77 : decode cX7_dog 77 = .ok (.iload_n 3, 1) := by decide +kernel
theorem dX7_dog_78 : decode cX7_dog 78 = .ok (.invokevirtual 111, 3) := by decide +kernel
theorem dX7_dog_81 : decode cX7_dog 81 = .ok (.ireturn, 1) := by decide +kernel
theorem dX7_set_0 : decode cX7_set 0 = .ok (.aload_n 0, 1) := by decide +kernel
theorem dX7_set_1 : decode cX7_set 1 = .ok (.iload_n 1, 1) := by decide +kernel
theorem dX7_set_2 : decode cX7_set 2 = .ok (.invokevirtual 115, 3) := by decide +kernel
theorem dX7_set_5 : decode cX7_set 5 = .ok (.ifCond .ne 6, 3) := by decide +kernel
theorem dX7_set_8 : decode cX7_set 8 = .ok (.bipush (-2), 2) := by decide +kernel
theorem dX7_set_10 : decode cX7_set 10 = .ok (.ireturn, 1) := by decide +kernel
theorem dX7_set_11 : decode cX7_set 11 = .ok (.iload_n 2, 1) := by decide +kernel
theorem dX7_set_12 : decode cX7_set 12 = .ok (.tableswitch 112 0 2 #[28, 56, 84], 28) := by decide +kernel
theorem dX7_set_40 : decode cX7_set 40 = .ok (.iload_n 3, 1) := by decide +kernel
theorem dX7_set_41 : decode cX7_set 41 = .ok (.iconst 1, 1) := by decide +kernel
theorem dX7_set_42 : decode cX7_set 42 = .ok (.bipush 9, 2) := by decide +kernel
theorem dX7_set_44 : decode cX7_set 44 = .ok (.invokestatic 100, 3) := by decide +kernel
theorem dX7_set_47 : decode cX7_set 47 = .ok (.ifCond .eq 18, 3) := by decide +kernel
theorem dX7_set_50 : decode cX7_set 50 = .ok (.aload_n 0, 1) := by decide +kernel
theorem dX7_set_51 : decode cX7_set 51 = .ok (.getfield 10, 3) := by decide +kernel
theorem dX7_set_54 : decode cX7_set 54 = .ok (.getfield 119, 3) := by decide +kernel
theorem dX7_set_57 : decode cX7_set 57 = .ok (.iload_n 1, 1) := by decide +kernel
theorem dX7_set_58 : decode cX7_set 58 = .ok (.iload_n 3, 1) := by decide +kernel
theorem dX7_set_59 : decode cX7_set 59 = .ok (.invokestatic 122, 3) := by decide +kernel
theorem dX7_set_62 : decode cX7_set 62 = .ok (.goto 5, 3) := by decide +kernel
theorem dX7_set_65 : decode cX7_set 65 = .ok (.bipush (-2), 2) := by decide +kernel
theorem dX7_set_67 : decode cX7_set 67 = .ok (.ireturn, 1) := by decide +kernel
theorem dX7_set_68 : decode cX7_set 68 = .ok (.iload_n 3, 1) := by decide +kernel
theorem dX7_set_69 : decode cX7_set 69 = .ok (.iconst 0, 1) := by decide +kernel
theorem dX7_set_70 : decode cX7_set 70 = .ok (.bipush 9, 2) := by decide +kernel
theorem dX7_set_72 : decode cX7_set 72 = .ok (.invokestatic 100, 3) := by decide +kernel
theorem dX7_set_75 : decode cX7_set 75 = .ok (.ifCond .eq 18, 3) := by decide +kernel
theorem dX7_set_78 : decode cX7_set 78 = .ok (.aload_n 0, 1) := by decide +kernel
theorem dX7_set_79 : decode cX7_set 79 = .ok (.getfield 10, 3) := by decide +kernel
theorem dX7_set_82 : decode cX7_set 82 = .ok (.getfield 126, 3) := by decide +kernel
theorem dX7_set_85 : decode cX7_set 85 = .ok (.iload_n 1, 1) := by decide +kernel
theorem dX7_set_86 : decode cX7_set 86 = .ok (.iload_n 3, 1) := by decide +kernel
theorem dX7_set_87 : decode cX7_set 87 = .ok (.invokestatic 122, 3) := by decide +kernel
theorem dX7_set_90 : decode cX7_set 90 = .ok (.goto 5, 3) := by decide +kernel
theorem dX7_set_93 : decode cX7_set 93 = .ok (.bipush (-2), 2) := by decide +kernel
theorem dX7_set_95 : decode cX7_set 95 = .ok (.ireturn, 1) := by decide +kernel
theorem dX7_set_96 : decode cX7_set 96 = .ok (.iload_n 3, 1) := by decide +kernel
theorem dX7_set_97 : decode cX7_set 97 = .ok (.iconst 0, 1) := by decide +kernel
theorem dX7_set_98 : decode cX7_set 98 = .ok (.bipush 99, 2) := by decide +kernel
theorem dX7_set_100 : decode cX7_set 100 = .ok (.invokestatic 100, 3) := by decide +kernel
theorem dX7_set_103 : decode cX7_set 103 = .ok (.ifCond .eq 18, 3) := by decide +kernel
theorem dX7_set_106 : decode cX7_set 106 = .ok (.aload_n 0, 1) := by decide +kernel
theorem dX7_set_107 : decode cX7_set 107 = .ok (.getfield 10, 3) := by decide +kernel
theorem dX7_set_110 : decode cX7_set 110 = .ok (.getfield 129, 3) := by decide +kernel
theorem dX7_set_113 : decode cX7_set 113 = .ok (.iload_n 1, 1) := by decide +kernel
theorem dX7_set_114 : decode cX7_set 114 = .ok (.iload_n 3, 1) := by decide +kernel
theorem dX7_set_115 : decode cX7_set 115 = .ok (.invokestatic 122, 3) := by decide +kernel
theorem dX7_set_118 : decode cX7_set 118 = .ok (.goto 5, 3) := by decide +kernel
theorem dX7_set_121 : decode cX7_set 121 = .ok (.bipush (-2), 2) := by decide +kernel
theorem dX7_set_123 : decode cX7_set 123 = .ok (.ireturn, 1) := by decide +kernel
theorem dX7_set_124 : decode cX7_set 124 = .ok (.bipush (-2), 2) := by decide +kernel
theorem dX7_set_126 : decode cX7_set 126 = .ok (.ireturn, 1) := by decide +kernel
theorem dX7_told_0 : decode cX7_told 0 = .ok (.aload_n 0, 1) := by decide +kernel
theorem dX7_told_1 : decode cX7_told 1 = .ok (.iload_n 1, 1) := by decide +kernel
theorem dX7_told_2 : decode cX7_told 2 = .ok (.invokevirtual 115, 3) := by decide +kernel
theorem dX7_told_5 : decode cX7_told 5 = .ok (.ifCond .ne 6, 3) := by decide +kernel
theorem dX7_told_8 : decode cX7_told 8 = .ok (.bipush (-2), 2) := by decide +kernel
theorem dX7_told_10 : decode cX7_told 10 = .ok (.ireturn, 1) := by decide +kernel
theorem dX7_told_11 : decode cX7_told 11 = .ok (.iload_n 2, 1) := by decide +kernel
theorem dX7_told_12 : decode cX7_told 12 = .ok (.tableswitch 106 0 5 #[40, 50, 60, 70, 80, 89], 40) := by decide +kernel
theorem dX7_told_52 : decode cX7_told 52 = .ok (.aload_n 0, 1) := by decide +kernel
theorem dX7_told_53 : decode cX7_told 53 = .ok (.getfield 10, 3) := by decide +kernel
theorem dX7_told_56 : decode cX7_told 56 = .ok (.getfield 119, 3) := by decide +kernel
theorem dX7_told_59 : decode cX7_told 59 = .ok (.iload_n 1, 1) := by decide +kernel
theorem dX7_told_60 : decode cX7_told 60 = .ok (.iaload, 1) := by decide +kernel
theorem dX7_told_61 : decode cX7_told 61 = .ok (.ireturn, 1) := by decide +kernel
theorem dX7_told_62 : decode cX7_told 62 = .ok (.aload_n 0, 1) := by decide +kernel
theorem dX7_told_63 : decode cX7_told 63 = .ok (.getfield 10, 3) := by decide +kernel
theorem dX7_told_66 : decode cX7_told 66 = .ok (.getfield 126, 3) := by decide +kernel
theorem dX7_told_69 : decode cX7_told 69 = .ok (.iload_n 1, 1) := by decide +kernel
theorem dX7_told_70 : decode cX7_told 70 = .ok (.iaload, 1) := by decide +kernel
theorem dX7_told_71 : decode cX7_told 71 = .ok (.ireturn, 1) := by decide +kernel
theorem dX7_told_72 : decode cX7_told 72 = .ok (.aload_n 0, 1) := by decide +kernel
theorem dX7_told_73 : decode cX7_told 73 = .ok (.getfield 10, 3) := by decide +kernel
theorem dX7_told_76 : decode cX7_told 76 = .ok (.getfield 129, 3) := by decide +kernel
theorem dX7_told_79 : decode cX7_told 79 = .ok (.iload_n 1, 1) := by decide +kernel
theorem dX7_told_80 : decode cX7_told 80 = .ok (.iaload, 1) := by decide +kernel
theorem dX7_told_81 : decode cX7_told 81 = .ok (.ireturn, 1) := by decide +kernel
theorem dX7_told_82 : decode cX7_told 82 = .ok (.aload_n 0, 1) := by decide +kernel
theorem dX7_told_83 : decode cX7_told 83 = .ok (.getfield 10, 3) := by decide +kernel
theorem dX7_told_86 : decode cX7_told 86 = .ok (.getfield 132, 3) := by decide +kernel
theorem dX7_told_89 : decode cX7_told 89 = .ok (.iload_n 1, 1) := by decide +kernel
theorem dX7_told_90 : decode cX7_told 90 = .ok (.iaload, 1) := by decide +kernel
theorem dX7_told_91 : decode cX7_told 91 = .ok (.ireturn, 1) := by decide +kernel
theorem dX7_told_92 : decode cX7_told 92 = .ok (.aload_n 0, 1) := by decide +kernel
theorem dX7_told_93 : decode cX7_told 93 = .ok (.getfield 10, 3) := by decide +kernel
theorem dX7_told_96 : decode cX7_told 96 = .ok (.iload_n 1, 1) := by decide +kernel
theorem dX7_told_97 : decode cX7_told 97 = .ok (.invokevirtual 135, 3) := by decide +kernel
theorem dX7_told_100 : decode cX7_told 100 = .ok (.ireturn, 1) := by decide +kernel
theorem dX7_told_101 : decode cX7_told 101 = .ok (.aload_n 0, 1) := by decide +kernel
theorem dX7_told_102 : decode cX7_told 102 = .ok (.getfield 10, 3) := by decide +kernel
theorem dX7_told_105 : decode cX7_told 105 = .ok (.iload_n 1, 1) := by decide +kernel
theorem dX7_told_106 : decode cX7_told 106 = .ok (.aload_n 0, 1) := by decide +kernel
theorem dX7_told_107 : decode cX7_told 107 = .ok (.getfield 10, 3) := by decide +kernel
theorem dX7_told_110 : decode cX7_told 110 = .ok (.iload_n 1, 1) := by decide +kernel
theorem dX7_told_111 : decode cX7_told 111 = .ok (.invokevirtual 135, 3) := by decide +kernel
theorem dX7_told_114 : decode cX7_told 114 = .ok (.invokevirtual 139, 3) := by decide +kernel
theorem dX7_told_117 : decode cX7_told 117 = .ok (.ireturn, 1) := by decide +kernel
theorem dX7_told_118 : decode cX7_told 118 = .ok (.bipush (-2), 2) := by decide +kernel
theorem dX7_told_120 : decode cX7_told 120 = .ok (.ireturn, 1) := by decide +kernel
theorem dX7_asks_0 : decode cX7_asks 0 = .ok (.aload_n 0, 1) := by decide +kernel
theorem dX7_asks_1 : decode cX7_asks 1 = .ok (.iload_n 1, 1) := by decide +kernel
theorem dX7_asks_2 : decode cX7_asks 2 = .ok (.invokevirtual 115, 3) := by decide +kernel
theorem dX7_asks_5 : decode cX7_asks 5 = .ok (.ifCond .eq 25, 3) := by decide +kernel
theorem dX7_asks_8 : decode cX7_asks 8 = .ok (.aload_n 0, 1) := by decide +kernel
theorem dX7_asks_9 : decode cX7_asks 9 = .ok (.iload_n 2, 1) := by decide +kernel
theorem dX7_asks_10 : decode cX7_asks 10 = .ok (.invokevirtual 115, 3) := by decide +kernel
theorem dX7_asks_13 : decode cX7_asks 13 = .ok (.ifCond .eq 17, 3) := by decide +kernel
theorem dX7_asks_16 : decode cX7_asks 16 = .ok (.iload_n 1, 1) := by decide +kernel
theorem dX7_asks_17 : decode cX7_asks 17 = .ok (.iload_n 2, 1) := by decide +kernel
theorem dX7_asks_18 : decode cX7_asks 18 = .ok (.if_icmp .eq 12, 3) := by decide +kernel
theorem dX7_asks_21 : decode cX7_asks 21 = .ok (.iload_n 3, 1) := by decide +kernel
theorem dX7_asks_22 : decode cX7_asks 22 = .ok (.iconst 0, 1) := by decide +kernel
theorem dX7_asks_23 : decode cX7_asks 23 = .ok (.iconst 2, 1) := by decide +kernel
theorem dX7_asks_24 : decode cX7_asks 24 = .ok (.invokestatic 100, 3) := by decide +kernel
theorem dX7_asks_27 : decode cX7_asks 27 = .ok (.ifCond .ne 6, 3) := by decide +kernel
theorem dX7_asks_30 : decode cX7_asks 30 = .ok (.ldc 143, 2) := by decide +kernel
theorem dX7_asks_32 : decode cX7_asks 32 = .ok (.ireturn, 1) := by decide +kernel
theorem dX7_asks_33 : decode cX7_asks 33 = .ok (.aload_n 0, 1) := by decide +kernel
theorem dX7_asks_34 : decode cX7_asks 34 = .ok (.iload_n 3, 1) := by decide +kernel
theorem dX7_asks_35 : decode cX7_asks 35 = .ok (.iload_n 1, 1) := by decide +kernel
theorem dX7_asks_36 : decode cX7_asks 36 = .ok (.iload_n 2, 1) := by decide +kernel
theorem dX7_asks_37 : decode cX7_asks 37 = .ok (.invokevirtual 144, 3) := by decide +kernel
theorem dX7_asks_40 : decode cX7_asks 40 = .ok (.ireturn, 1) := by decide +kernel
theorem dX7_feed_0 : decode cX7_feed 0 = .ok (.iload_n 1, 1) := by decide +kernel
theorem dX7_feed_1 : decode cX7_feed 1 = .ok (.iconst 0, 1) := by decide +kernel
theorem dX7_feed_2 : decode cX7_feed 2 = .ok (.sipush 255, 3) := by decide +kernel
theorem dX7_feed_5 : decode cX7_feed 5 = .ok (.invokestatic 100, 3) := by decide +kernel
theorem dX7_feed_8 : decode cX7_feed 8 = .ok (.ifCond .ne 6, 3) := by decide +kernel
theorem dX7_feed_11 : decode cX7_feed 11 = .ok (.bipush (-2), 2) := by decide +kernel
theorem dX7_feed_13 : decode cX7_feed 13 = .ok (.ireturn, 1) := by decide +kernel
theorem dX7_feed_14 : decode cX7_feed 14 = .ok (.aload_n 0, 1) := by decide +kernel
theorem dX7_feed_15 : decode cX7_feed 15 = .ok (.getfield 43, 3) := by decide +kernel
theorem dX7_feed_18 : decode cX7_feed 18 = .ok (.getfield 148, 3) := by decide +kernel
theorem dX7_feed_21 : decode cX7_feed 21 = .ok (.sipush 160, 3) := by decide +kernel
theorem dX7_feed_24 : decode cX7_feed 24 = .ok (.if_icmp .lt 6, 3) := by decide +kernel
theorem dX7_feed_27 : decode cX7_feed 27 = .ok (.bipush (-4), 2) := by decide +kernel
theorem dX7_feed_29 : decode cX7_feed 29 = .ok (.ireturn, 1) := by decide +kernel
theorem dX7_feed_30 : decode cX7_feed 30 = .ok (.aload_n 0, 1) := by decide +kernel
theorem dX7_feed_31 : decode cX7_feed 31 = .ok (.getfield 43, 3) := by decide +kernel
theorem dX7_feed_34 : decode cX7_feed 34 = .ok (.iload_n 1, 1) := by decide +kernel
theorem dX7_feed_35 : decode cX7_feed 35 = .ok (.invokevirtual 92, 3) := by decide +kernel
theorem dX7_feed_38 : decode cX7_feed 38 = .ok (.aload_n 0, 1) := by decide +kernel
theorem dX7_feed_39 : decode cX7_feed 39 = .ok (.getfield 43, 3) := by decide +kernel
theorem dX7_feed_42 : decode cX7_feed 42 = .ok (.getfield 148, 3) := by decide +kernel
theorem dX7_feed_45 : decode cX7_feed 45 = .ok (.ireturn, 1) := by decide +kernel
theorem dX7_text_0 : decode cX7_text 0 = .ok (.aload_n 0, 1) := by decide +kernel
theorem dX7_text_1 : decode cX7_text 1 = .ok (.getfield 53, 3) := by decide +kernel
theorem dX7_text_4 : decode cX7_text 4 = .ok (.bipush 6, 2) := by decide +kernel
theorem dX7_text_6 : decode cX7_text 6 = .ok (.if_icmp .lt 6, 3) := by decide +kernel
theorem dX7_text_9 : decode cX7_text 9 = .ok (.bipush (-4), 2) := by decide +kernel
theorem dX7_text_11 : decode cX7_text 11 = .ok (.ireturn, 1) := by decide +kernel
theorem dX7_text_12 : decode cX7_text 12 = .ok (.aload_n 0, 1) := by decide +kernel
theorem dX7_text_13 : decode cX7_text 13 = .ok (.getfield 43, 3) := by decide +kernel
theorem dX7_text_16 : decode cX7_text 16 = .ok (.aload_n 0, 1) := by decide +kernel
theorem dX7_text_17 : decode cX7_text 17 = .ok (.getfield 49, 3) := by decide +kernel
theorem dX7_text_20 : decode cX7_text 20 = .ok (.aload_n 0, 1) := by decide +kernel
theorem dX7_text_21 : decode cX7_text 21 = .ok (.getfield 53, 3) := by decide +kernel
theorem dX7_text_24 : decode cX7_text 24 = .ok (.aaload, 1) := by decide +kernel
theorem dX7_text_25 : decode cX7_text 25 = .ok (.invokevirtual 96, 3) := by decide +kernel
theorem dX7_text_28 : decode cX7_text 28 = .ok (.istore_n 1, 1) := by decide +kernel
theorem dX7_text_29 : decode cX7_text 29 = .ok (.iload_n 1, 1) := by decide +kernel
theorem dX7_text_30 : decode cX7_text 30 = .ok (.ifCond .lt 8, 3) := by decide +kernel
theorem dX7_text_33 : decode cX7_text 33 = .ok (.bipush (-100), 2) := by decide +kernel
theorem dX7_text_35 : decode cX7_text 35 = .ok (.iload_n 1, 1) := by decide +kernel
theorem dX7_text_36 : decode cX7_text 36 = .ok (.isub, 1) := by decide +kernel
theorem dX7_text_37 : decode cX7_text 37 = .ok (.ireturn, 1) := by decide +kernel
theorem dX7_text_38 : decode cX7_text 38 = .ok (.aload_n 0, 1) := by decide +kernel
theorem dX7_text_39 : decode cX7_text 39 = .ok (.dup, 1) := by decide +kernel
theorem dX7_text_40 : decode cX7_text 40 = .ok (.getfield 53, 3) := by decide +kernel
theorem dX7_text_43 : decode cX7_text 43 = .ok (.iconst 1, 1) := by decide +kernel
theorem dX7_text_44 : decode cX7_text 44 = .ok (.iadd, 1) := by decide +kernel
theorem dX7_text_45 : decode cX7_text 45 = .ok (.putfield 53, 3) := by decide +kernel
theorem dX7_text_48 : decode cX7_text 48 = .ok (.aload_n 0, 1) := by decide +kernel
theorem dX7_text_49 : decode cX7_text 49 = .ok (.getfield 53, 3) := by decide +kernel
theorem dX7_text_52 : decode cX7_text 52 = .ok (.iconst 1, 1) := by decide +kernel
theorem dX7_text_53 : decode cX7_text 53 = .ok (.isub, 1) := by decide +kernel
theorem dX7_text_54 : decode cX7_text 54 = .ok (.ireturn, 1) := by decide +kernel
theorem dX7_force_0 : decode cX7_force 0 = .ok (.iload_n 1, 1) := by decide +kernel
theorem dX7_force_1 : decode cX7_force 1 = .ok (.iconst 0, 1) := by decide +kernel
theorem dX7_force_2 : decode cX7_force 2 = .ok (.aload_n 0, 1) := by decide +kernel
theorem dX7_force_3 : decode cX7_force 3 = .ok (.getfield 53, 3) := by decide +kernel
theorem dX7_force_6 : decode cX7_force 6 = .ok (.iconst 1, 1) := by decide +kernel
theorem dX7_force_7 : decode cX7_force 7 = .ok (.isub, 1) := by decide +kernel
theorem dX7_force_8 : decode cX7_force 8 = .ok (.invokestatic 100, 3) := by decide +kernel
theorem dX7_force_11 : decode cX7_force 11 = .ok (.ifCond .ne 6, 3) := by decide +kernel
theorem dX7_force_14 : decode cX7_force 14 = .ok (.bipush (-2), 2) := by decide +kernel
theorem dX7_force_16 : decode cX7_force 16 = .ok (.ireturn, 1) := by decide +kernel
theorem dX7_force_17 : decode cX7_force 17 = .ok (.aload_n 0, 1) := by decide +kernel
theorem dX7_force_18 : decode cX7_force 18 = .ok (.getfield 10, 3) := by decide +kernel
theorem dX7_force_21 : decode cX7_force 21 = .ok (.getfield 149, 3) := by decide +kernel
theorem dX7_force_24 : decode cX7_force 24 = .ok (.istore_n 2, 1) := by decide +kernel
theorem dX7_force_25 : decode cX7_force 25 = .ok (.aload_n 0, 1) := by decide +kernel
theorem dX7_force_26 : decode cX7_force 26 = .ok (.getfield 10, 3) := by decide +kernel
theorem dX7_force_29 : decode cX7_force 29 = .ok (.iload_n 1, 1) := by decide +kernel
theorem dX7_force_30 : decode cX7_force 30 = .ok (.putfield 149, 3) := by decide +kernel
theorem dX7_force_33 : decode cX7_force 33 = .ok (.iload_n 2, 1) := by decide +kernel
theorem dX7_force_34 : decode cX7_force 34 = .ok (.ireturn, 1) := by decide +kernel
theorem dX7_cross_0 : decode cX7_cross 0 = .ok (.iload_n 1, 1) := by decide +kernel
theorem dX7_cross_1 : decode cX7_cross 1 = .ok (.iconst 0, 1) := by decide +kernel
theorem dX7_cross_2 : decode cX7_cross 2 = .ok (.aload_n 0, 1) := by decide +kernel
theorem dX7_cross_3 : decode cX7_cross 3 = .ok (.getfield 10, 3) := by decide +kernel
theorem dX7_cross_6 : decode cX7_cross 6 = .ok (.getfield 110, 3) := by decide +kernel
theorem dX7_cross_9 : decode cX7_cross 9 = .ok (.iconst 2, 1) := by decide +kernel
theorem dX7_cross_10 : decode cX7_cross 10 = .ok (.isub, 1) := by decide +kernel
theorem dX7_cross_11 : decode cX7_cross 11 = .ok (.invokestatic 100, 3) := by decide +kernel
theorem dX7_cross_14 : decode cX7_cross 14 = .ok (.ifCond .eq 12, 3) := by decide +kernel
theorem dX7_cross_17 : decode cX7_cross 17 = .ok (.iload_n 2, 1) := by decide +kernel
theorem dX7_cross_18 : decode cX7_cross 18 = .ok (.iconst 0, 1) := by decide +kernel
theorem dX7_cross_19 : decode cX7_cross 19 = .ok (.iconst 1, 1) := by decide +kernel
theorem dX7_cross_20 : decode cX7_cross 20 = .ok (.invokestatic 100, 3) := by decide +kernel
theorem dX7_cross_23 : decode cX7_cross 23 = .ok (.ifCond .ne 6, 3) := by decide +kernel
theorem dX7_cross_26 : decode cX7_cross 26 = .ok (.bipush (-2), 2) := by decide +kernel
theorem dX7_cross_28 : decode cX7_cross 28 = .ok (.ireturn, 1) := by decide +kernel
theorem dX7_cross_29 : decode cX7_cross 29 = .ok (.aload_n 0, 1) := by decide +kernel
theorem dX7_cross_30 : decode cX7_cross 30 = .ok (.getfield 10, 3) := by decide +kernel
theorem dX7_cross_33 : decode cX7_cross 33 = .ok (.getfield 104, 3) := by decide +kernel
theorem dX7_cross_36 : decode cX7_cross 36 = .ok (.getfield 107, 3) := by decide +kernel
theorem dX7_cross_39 : decode cX7_cross 39 = .ok (.bipush 40, 2) := by decide +kernel
theorem dX7_cross_41 : decode cX7_cross 41 = .ok (.if_icmp .lt 6, 3) := by decide +kernel
theorem dX7_cross_44 : decode cX7_cross 44 = .ok (.bipush (-4), 2) := by decide +kernel
theorem dX7_cross_46 : decode cX7_cross 46 = .ok (.ireturn, 1) := by decide +kernel
theorem dX7_cross_47 : decode cX7_cross 47 = .ok (.aload_n 0, 1) := by decide +kernel
theorem dX7_cross_48 : decode cX7_cross 48 = .ok (.getfield 10, 3) := by decide +kernel
theorem dX7_cross_51 : decode cX7_cross 51 = .ok (.getfield 104, 3) := by decide +kernel
theorem dX7_cross_54 : decode cX7_cross 54 = .ok (.iload_n 1, 1) := by decide +kernel
theorem dX7_cross_55 : decode cX7_cross 55 = .ok (.iload_n 2, 1) := by decide +kernel
theorem dX7_cross_56 : decode cX7_cross 56 = .ok (.aload_n 0, 1) := by decide +kernel
theorem dX7_cross_57 : decode cX7_cross 57 = .ok (.getfield 10, 3) := by decide +kernel
theorem dX7_cross_60 : decode cX7_cross 60 = .ok (.getfield 152, 3) := by decide +kernel
theorem dX7_cross_63 : decode cX7_cross 63 = .ok (.iload_n 1, 1) := by decide +kernel
theorem dX7_cross_64 : decode cX7_cross 64 = .ok (.iaload, 1) := by decide +kernel
theorem dX7_cross_65 : decode cX7_cross 65 = .ok (.aload_n 0, 1) := by decide +kernel
theorem dX7_cross_66 : decode cX7_cross 66 = .ok (.getfield 10, 3) := by decide +kernel
theorem dX7_cross_69 : decode cX7_cross 69 = .ok (.getfield 152, 3) := by decide +kernel
theorem dX7_cross_72 : decode cX7_cross 72 = .ok (.iload_n 1, 1) := by decide +kernel
theorem dX7_cross_73 : decode cX7_cross 73 = .ok (.iconst 1, 1) := by decide +kernel
theorem dX7_cross_74 : decode cX7_cross 74 = .ok (.iadd, 1) := by decide +kernel
theorem dX7_cross_75 : decode cX7_cross 75 = .ok (.iaload, 1) := by decide +kernel
theorem dX7_cross_76 : decode cX7_cross 76 = .ok (.aload_n 0, 1) := by decide +kernel
theorem dX7_cross_77 : decode cX7_cross 77 = .ok (.getfield 10, 3) := by decide +kernel
theorem dX7_cross_80 : decode cX7_cross 80 = .ok (.iload_n 1, 1) := by decide +kernel
theorem dX7_cross_81 : decode cX7_cross 81 = .ok (.invokevirtual 155, 3) := by decide +kernel
theorem dX7_cross_84 : decode cX7_cross 84 = .ok (.invokevirtual 158, 3) := by decide +kernel
theorem dX7_cross_87 : decode cX7_cross 87 = .ok (.aload_n 0, 1) := by decide +kernel
theorem dX7_cross_88 : decode cX7_cross 88 = .ok (.getfield 10, 3) := by decide +kernel
theorem dX7_cross_91 : decode cX7_cross 91 = .ok (.iload_n 1, 1) := by decide +kernel
theorem dX7_cross_92 : decode cX7_cross 92 = .ok (.invokevirtual 162, 3) := by decide +kernel
theorem dX7_cross_95 : decode cX7_cross 95 = .ok (.aload_n 0, 1) := by decide +kernel
theorem dX7_cross_96 : decode cX7_cross 96 = .ok (.getfield 10, 3) := by decide +kernel
theorem dX7_cross_99 : decode cX7_cross 99 = .ok (.getfield 104, 3) := by decide +kernel
theorem dX7_cross_102 : decode cX7_cross 102 = .ok (.getfield 107, 3) := by decide +kernel
theorem dX7_cross_105 : decode cX7_cross 105 = .ok (.ireturn, 1) := by decide +kernel
theorem dX7_undo_0 : decode cX7_undo 0 = .ok (.aload_n 0, 1) := by decide +kernel
theorem dX7_undo_1 : decode cX7_undo 1 = .ok (.getfield 10, 3) := by decide +kernel
theorem dX7_undo_4 : decode cX7_undo 4 = .ok (.getfield 104, 3) := by decide +kernel
theorem dX7_undo_7 : decode cX7_undo 7 = .ok (.astore_n 1, 1) := by decide +kernel
theorem dX7_undo_8 : decode cX7_undo 8 = .ok (.aload_n 1, 1) := by decide +kernel
theorem dX7_undo_9 : decode cX7_undo 9 = .ok (.getfield 107, 3) := by decide +kernel
theorem dX7_undo_12 : decode cX7_undo 12 = .ok (.ifCond .gt 6, 3) := by decide +kernel
theorem dX7_undo_15 : decode cX7_undo 15 = .ok (.bipush (-3), 2) := by decide +kernel
theorem dX7_undo_17 : decode cX7_undo 17 = .ok (.ireturn, 1) := by decide +kernel
theorem dX7_undo_18 : decode cX7_undo 18 = .ok (.aload_n 0, 1) := by decide +kernel
theorem dX7_undo_19 : decode cX7_undo 19 = .ok (.getfield 10, 3) := by decide +kernel
theorem dX7_undo_22 : decode cX7_undo 22 = .ok (.aload_n 1, 1) := by decide +kernel
theorem dX7_undo_23 : decode cX7_undo 23 = .ok (.getfield 165, 3) := by decide +kernel
theorem dX7_undo_26 : decode cX7_undo 26 = .ok (.aload_n 1, 1) := by decide +kernel
theorem dX7_undo_27 : decode cX7_undo 27 = .ok (.getfield 107, 3) := by decide +kernel
theorem dX7_undo_30 : decode cX7_undo 30 = .ok (.iconst 1, 1) := by decide +kernel
theorem dX7_undo_31 : decode cX7_undo 31 = .ok (.isub, 1) := by decide +kernel
theorem dX7_undo_32 : decode cX7_undo 32 = .ok (.iaload, 1) := by decide +kernel
theorem dX7_undo_33 : decode cX7_undo 33 = .ok (.invokevirtual 162, 3) := by decide +kernel
theorem dX7_undo_36 : decode cX7_undo 36 = .ok (.aload_n 1, 1) := by decide +kernel
theorem dX7_undo_37 : decode cX7_undo 37 = .ok (.dup, 1) := by decide +kernel
theorem dX7_undo_38 : decode cX7_undo 38 = .ok (.getfield 107, 3) := by decide +kernel
theorem dX7_undo_41 : decode cX7_undo 41 = .ok (.iconst 1, 1) := by decide +kernel
theorem dX7_undo_42 : decode cX7_undo 42 = .ok (.isub, 1) := by decide +kernel
theorem dX7_undo_43 : decode cX7_undo 43 = .ok (.putfield 107, 3) := by decide +kernel
theorem dX7_undo_46 : decode cX7_undo 46 = .ok (.aload_n 1, 1) := by decide +kernel
theorem dX7_undo_47 : decode cX7_undo 47 = .ok (.getfield 107, 3) := by decide +kernel
theorem dX7_undo_50 : decode cX7_undo 50 = .ok (.ireturn, 1) := by decide +kernel
theorem dX7_comb_0 : decode cX7_comb 0 = .ok (.aload_n 0, 1) := by decide +kernel
theorem dX7_comb_1 : decode cX7_comb 1 = .ok (.getfield 10, 3) := by decide +kernel
theorem dX7_comb_4 : decode cX7_comb 4 = .ok (.getfield 104, 3) := by decide +kernel
theorem dX7_comb_7 : decode cX7_comb 7 = .ok (.getfield 107, 3) := by decide +kernel
theorem dX7_comb_10 : decode cX7_comb 10 = .ok (.istore_n 1, 1) := by decide +kernel
theorem dX7_comb_11 : decode cX7_comb 11 = .ok (.aload_n 0, 1) := by decide +kernel
theorem dX7_comb_12 : decode cX7_comb 12 = .ok (.invokevirtual 168, 3) := by decide +kernel
theorem dX7_comb_15 : decode cX7_comb 15 = .ok (.aload_n 0, 1) := by decide +kernel
theorem dX7_comb_16 : decode cX7_comb 16 = .ok (.getfield 10, 3) := by decide +kernel
theorem dX7_comb_19 : decode cX7_comb 19 = .ok (.getfield 104, 3) := by decide +kernel
theorem dX7_comb_22 : decode cX7_comb 22 = .ok (.aload_n 0, 1) := by decide +kernel
theorem dX7_comb_23 : decode cX7_comb 23 = .ok (.getfield 26, 3) := by decide +kernel
theorem dX7_comb_26 : decode cX7_comb 26 = .ok (.invokevirtual 171, 3) := by decide +kernel
theorem dX7_comb_29 : decode cX7_comb 29 = .ok (.iload_n 1, 1) := by decide +kernel
theorem dX7_comb_30 : decode cX7_comb 30 = .ok (.aload_n 0, 1) := by decide +kernel
theorem dX7_comb_31 : decode cX7_comb 31 = .ok (.getfield 26, 3) := by decide +kernel
theorem dX7_comb_34 : decode cX7_comb 34 = .ok (.getfield 107, 3) := by decide +kernel
theorem dX7_comb_37 : decode cX7_comb 37 = .ok (.isub, 1) := by decide +kernel
theorem dX7_comb_38 : decode cX7_comb 38 = .ok (.ireturn, 1) := by decide +kernel
theorem dX7_at_0 : decode cX7_at 0 = .ok (.iload_n 1, 1) := by decide +kernel
theorem dX7_at_1 : decode cX7_at 1 = .ok (.iconst 0, 1) := by decide +kernel
theorem dX7_at_2 : decode cX7_at 2 = .ok (.aload_n 0, 1) := by decide +kernel
theorem dX7_at_3 : decode cX7_at 3 = .ok (.getfield 10, 3) := by decide +kernel
theorem dX7_at_6 : decode cX7_at 6 = .ok (.getfield 110, 3) := by decide +kernel
theorem dX7_at_9 : decode cX7_at 9 = .ok (.iconst 1, 1) := by decide +kernel
theorem dX7_at_10 : decode cX7_at 10 = .ok (.isub, 1) := by decide +kernel
theorem dX7_at_11 : decode cX7_at 11 = .ok (.invokestatic 100, 3) := by decide +kernel
theorem dX7_at_14 : decode cX7_at 14 = .ok (.ifCond .eq 15, 3) := by decide +kernel
theorem dX7_at_17 : decode cX7_at 17 = .ok (.aload_n 0, 1) := by decide +kernel
theorem dX7_at_18 : decode cX7_at 18 = .ok (.getfield 10, 3) := by decide +kernel
theorem dX7_at_21 : decode cX7_at 21 = .ok (.getfield 152, 3) := by decide +kernel
theorem dX7_at_24 : decode cX7_at 24 = .ok (.iload_n 1, 1) := by decide +kernel
theorem dX7_at_25 : decode cX7_at 25 = .ok (.iaload, 1) := by decide +kernel
theorem dX7_at_26 : decode cX7_at 26 = .ok (.goto 5, 3) := by decide +kernel
theorem dX7_at_29 : decode cX7_at 29 = .ok (.bipush (-2), 2) := by decide +kernel
theorem dX7_at_31 : decode cX7_at 31 = .ok (.ireturn, 1) := by decide +kernel
theorem dX7_left_0 : decode cX7_left 0 = .ok (.aload_n 0, 1) := by decide +kernel
theorem dX7_left_1 : decode cX7_left 1 = .ok (.invokevirtual 168, 3) := by decide +kernel
theorem dX7_left_4 : decode cX7_left 4 = .ok (.iload_n 1, 1) := by decide +kernel
theorem dX7_left_5 : decode cX7_left 5 = .ok (.iconst 0, 1) := by decide +kernel
theorem dX7_left_6 : decode cX7_left 6 = .ok (.aload_n 0, 1) := by decide +kernel
theorem dX7_left_7 : decode cX7_left 7 = .ok (.getfield 26, 3) := by decide +kernel
theorem dX7_left_10 : decode cX7_left 10 = .ok (.getfield 107, 3) := by decide +kernel
theorem dX7_left_13 : decode cX7_left 13 = .ok (.iconst 1, 1) := by decide +kernel
theorem dX7_left_14 : decode cX7_left 14 = .ok (.isub, 1) := by decide +kernel
theorem dX7_left_15 : decode cX7_left 15 = .ok (.invokestatic 100, 3) := by decide +kernel
theorem dX7_left_18 : decode cX7_left 18 = .ok (.ifCond .ne 5, 3) := by decide +kernel
theorem dX7_left_21 : decode cX7_left 21 = .ok (.iconst (-1), 1) := by decide +kernel
theorem dX7_left_22 : decode cX7_left 22 = .ok (.ireturn, 1) := by decide +kernel
theorem dX7_left_23 : decode cX7_left 23 = .ok (.bipush 10, 2) := by decide +kernel
theorem dX7_left_25 : decode cX7_left 25 = .ok (.aload_n 0, 1) := by decide +kernel
theorem dX7_left_26 : decode cX7_left 26 = .ok (.getfield 26, 3) := by decide +kernel
theorem dX7_left_29 : decode cX7_left 29 = .ok (.getfield 165, 3) := by decide +kernel
theorem dX7_left_32 : decode cX7_left 32 = .ok (.iload_n 1, 1) := by decide +kernel
theorem dX7_left_33 : decode cX7_left 33 = .ok (.iaload, 1) := by decide +kernel
theorem dX7_left_34 : decode cX7_left 34 = .ok (.imul, 1) := by decide +kernel
theorem dX7_left_35 : decode cX7_left 35 = .ok (.aload_n 0, 1) := by decide +kernel
theorem dX7_left_36 : decode cX7_left 36 = .ok (.getfield 26, 3) := by decide +kernel
theorem dX7_left_39 : decode cX7_left 39 = .ok (.getfield 175, 3) := by decide +kernel
theorem dX7_left_42 : decode cX7_left 42 = .ok (.iload_n 1, 1) := by decide +kernel
theorem dX7_left_43 : decode cX7_left 43 = .ok (.iaload, 1) := by decide +kernel
theorem dX7_left_44 : decode cX7_left 44 = .ok (.iadd, 1) := by decide +kernel
theorem dX7_left_45 : decode cX7_left 45 = .ok (.ireturn, 1) := by decide +kernel
theorem dX7_who_0 : decode cX7_who 0 = .ok (.aload_n 0, 1) := by decide +kernel
theorem dX7_who_1 : decode cX7_who 1 = .ok (.iload_n 1, 1) := by decide +kernel
theorem dX7_who_2 : decode cX7_who 2 = .ok (.invokevirtual 115, 3) := by decide +kernel
theorem dX7_who_5 : decode cX7_who 5 = .ok (.ifCond .eq 11, 3) := by decide +kernel
theorem dX7_who_8 : decode cX7_who 8 = .ok (.aload_n 0, 1) := by decide +kernel
theorem dX7_who_9 : decode cX7_who 9 = .ok (.iload_n 2, 1) := by decide +kernel
theorem dX7_who_10 : decode cX7_who 10 = .ok (.invokevirtual 115, 3) := by decide +kernel
theorem dX7_who_13 : decode cX7_who 13 = .ok (.ifCond .ne 6, 3) := by decide +kernel
theorem dX7_who_16 : decode cX7_who 16 = .ok (.bipush (-2), 2) := by decide +kernel
theorem dX7_who_18 : decode cX7_who 18 = .ok (.ireturn, 1) := by decide +kernel
theorem dX7_who_19 : decode cX7_who 19 = .ok (.aload_n 0, 1) := by decide +kernel
theorem dX7_who_20 : decode cX7_who 20 = .ok (.invokevirtual 168, 3) := by decide +kernel
theorem dX7_who_23 : decode cX7_who 23 = .ok (.iload_n 1, 1) := by decide +kernel
theorem dX7_who_24 : decode cX7_who 24 = .ok (.invokestatic 178, 3) := by decide +kernel
theorem dX7_who_27 : decode cX7_who 27 = .ok (.iload_n 2, 1) := by decide +kernel
theorem dX7_who_28 : decode cX7_who 28 = .ok (.invokestatic 178, 3) := by decide +kernel
theorem dX7_who_31 : decode cX7_who 31 = .ok (.ior, 1) := by decide +kernel
theorem dX7_who_32 : decode cX7_who 32 = .ok (.istore_n 3, 1) := by decide +kernel
theorem dX7_who_33 : decode cX7_who 33 = .ok (.iconst 0, 1) := by decide +kernel
theorem dX7_who_34 : decode cX7_who 34 = .ok (.istore 4, 2) := by decide +kernel
theorem dX7_who_36 : decode cX7_who 36 = .ok (.iconst 0, 1) := by decide +kernel
theorem dX7_who_37 : decode cX7_who 37 = .ok (.istore 5, 2) := by decide +kernel
theorem dX7_who_39 : decode cX7_who 39 = .ok (.iload 5, 2) := by decide +kernel
theorem dX7_who_41 : decode cX7_who 41 = .ok (.aload_n 0, 1) := by decide +kernel
theorem dX7_who_42 : decode cX7_who 42 = .ok (.getfield 26, 3) := by decide +kernel
theorem dX7_who_45 : decode cX7_who 45 = .ok (.getfield 107, 3) := by decide +kernel
theorem dX7_who_48 : decode cX7_who 48 = .ok (.if_icmp .ge 27, 3) := by decide +kernel
theorem dX7_who_51 : decode cX7_who 51 = .ok (.aload_n 0, 1) := by decide +kernel
theorem dX7_who_52 : decode cX7_who 52 = .ok (.getfield 26, 3) := by decide +kernel
theorem dX7_who_55 : decode cX7_who 55 = .ok (.iload 5, 2) := by decide +kernel
theorem dX7_who_57 : decode cX7_who 57 = .ok (.invokevirtual 181, 3) := by decide +kernel
theorem dX7_who_60 : decode cX7_who 60 = .ok (.iload_n 3, 1) := by decide +kernel
theorem dX7_who_61 : decode cX7_who 61 = .ok (.iand, 1) := by decide +kernel
theorem dX7_who_62 : decode cX7_who 62 = .ok (.iload_n 3, 1) := by decide +kernel
theorem dX7_who_63 : decode cX7_who 63 = .ok (.if_icmp .ne 6, 3) := by decide +kernel
theorem dX7_who_66 : decode cX7_who 66 = .ok (.iinc 4 1, 3) := by decide +kernel
theorem dX7_who_69 : decode cX7_who 69 = .ok (.iinc 5 1, 3) := by decide +kernel
theorem dX7_who_72 : decode cX7_who 72 = .ok (.goto (-33), 3) := by decide +kernel
theorem dX7_who_75 : decode cX7_who 75 = .ok (.iload_n 1, 1) := by decide +kernel
theorem dX7_who_76 : decode cX7_who 76 = .ok (.iload_n 2, 1) := by decide +kernel
theorem dX7_who_77 : decode cX7_who 77 = .ok (.if_icmp .ne 12, 3) := by decide +kernel
theorem dX7_who_80 : decode cX7_who 80 = .ok (.iload 4, 2) := by decide +kernel
theorem dX7_who_82 : decode cX7_who 82 = .ok (.iconst 1, 1) := by decide +kernel
theorem dX7_who_83 : decode cX7_who 83 = .ok (.invokestatic 184, 3) := by decide +kernel
theorem dX7_who_86 : decode cX7_who 86 = .ok (.goto 5, 3) := by decide +kernel
theorem dX7_who_89 : decode cX7_who 89 = .ok (.iload 4, 2) := by decide +kernel
theorem dX7_who_91 : decode cX7_who 91 = .ok (.ireturn, 1) := by decide +kernel
theorem dX7_without_0 : decode cX7_without 0 = .ok (.iload_n 1, 1) := by decide +kernel
theorem dX7_without_1 : decode cX7_without 1 = .ok (.iconst 0, 1) := by decide +kernel
theorem dX7_without_2 : decode cX7_without 2 = .ok (.aload_n 0, 1) := by decide +kernel
theorem dX7_without_3 : decode cX7_without 3 = .ok (.invokevirtual 189, 3) := by decide +kernel
theorem dX7_without_6 : decode cX7_without 6 = .ok (.invokestatic 100, 3) := by decide +kernel
theorem dX7_without_9 : decode cX7_without 9 = .ok (.ifCond .ne 6, 3) := by decide +kernel
theorem dX7_without_12 : decode cX7_without 12 = .ok (.bipush (-2), 2) := by decide +kernel
theorem dX7_without_14 : decode cX7_without 14 = .ok (.ireturn, 1) := by decide +kernel
theorem dX7_without_15 : decode cX7_without 15 = .ok (.aload_n 0, 1) := by decide +kernel
theorem dX7_without_16 : decode cX7_without 16 = .ok (.iload_n 1, 1) := by decide +kernel
theorem dX7_without_17 : decode cX7_without 17 = .ok (.invokevirtual 192, 3) := by decide +kernel
theorem dX7_without_20 : decode cX7_without 20 = .ok (.ireturn, 1) := by decide +kernel
theorem dX7_unclip_0 : decode cX7_unclip 0 = .ok (.iload_n 1, 1) := by decide +kernel
theorem dX7_unclip_1 : decode cX7_unclip 1 = .ok (.iconst 0, 1) := by decide +kernel
theorem dX7_unclip_2 : decode cX7_unclip 2 = .ok (.iconst 1, 1) := by decide +kernel
theorem dX7_unclip_3 : decode cX7_unclip 3 = .ok (.invokestatic 100, 3) := by decide +kernel
theorem dX7_unclip_6 : decode cX7_unclip 6 = .ok (.ifCond .ne 6, 3) := by decide +kernel
theorem dX7_unclip_9 : decode cX7_unclip 9 = .ok (.bipush (-2), 2) := by decide +kernel
theorem dX7_unclip_11 : decode cX7_unclip 11 = .ok (.ireturn, 1) := by decide +kernel
theorem dX7_unclip_12 : decode cX7_unclip 12 = .ok (.aload_n 0, 1) := by decide +kernel
theorem dX7_unclip_13 : decode cX7_unclip 13 = .ok (.invokevirtual 189, 3) := by decide +kernel
theorem dX7_unclip_16 : decode cX7_unclip 16 = .ok (.istore_n 2, 1) := by decide +kernel
theorem dX7_unclip_17 : decode cX7_unclip 17 = .ok (.iconst 0, 1) := by decide +kernel
theorem dX7_unclip_18 : decode cX7_unclip 18 = .ok (.istore_n 3, 1) := by decide +kernel
theorem dX7_unclip_19 : decode cX7_unclip 19 = .ok (.iload_n 3, 1) := by decide +kernel
theorem dX7_unclip_20 : decode cX7_unclip 20 = .ok (.aload_n 0, 1) := by decide +kernel
theorem dX7_unclip_21 : decode cX7_unclip 21 = .ok (.invokevirtual 189, 3) := by decide +kernel
theorem dX7_unclip_24 : decode cX7_unclip 24 = .ok (.if_icmp .ge 30, 3) := by decide +kernel
theorem dX7_unclip_27 : decode cX7_unclip 27 = .ok (.iload_n 3, 1) := by decide +kernel
theorem dX7_unclip_28 : decode cX7_unclip 28 = .ok (.invokestatic 195, 3) := by decide +kernel
theorem dX7_unclip_31 : decode cX7_unclip 31 = .ok (.iload_n 2, 1) := by decide +kernel
theorem dX7_unclip_32 : decode cX7_unclip 32 = .ok (.invokestatic 195, 3) := by decide +kernel
theorem dX7_unclip_35 : decode cX7_unclip 35 = .ok (.if_icmp .ge 13, 3) := by decide +kernel
theorem dX7_unclip_38 : decode cX7_unclip 38 = .ok (.aload_n 0, 1) := by decide +kernel
theorem dX7_unclip_39 : decode cX7_unclip 39 = .ok (.iload_n 3, 1) := by decide +kernel
theorem dX7_unclip_40 : decode cX7_unclip 40 = .ok (.invokevirtual 192, 3) := by decide +kernel
theorem dX7_unclip_43 : decode cX7_unclip 43 = .ok (.ifCond .ne 5, 3) := by decide +kernel
theorem dX7_unclip_46 : decode cX7_unclip 46 = .ok (.iload_n 3, 1) := by decide +kernel
theorem dX7_unclip_47 : decode cX7_unclip 47 = .ok (.istore_n 2, 1) := by decide +kernel
theorem dX7_unclip_48 : decode cX7_unclip 48 = .ok (.iinc 3 1, 3) := by decide +kernel
theorem dX7_unclip_51 : decode cX7_unclip 51 = .ok (.goto (-32), 3) := by decide +kernel
theorem dX7_unclip_54 : decode cX7_unclip 54 = .ok (.iload_n 1, 1) := by decide +kernel
theorem dX7_unclip_55 : decode cX7_unclip 55 = .ok (.ifCond .ne 7, 3) := by decide +kernel
theorem dX7_unclip_58 : decode cX7_unclip 58 = .ok (.iload_n 2, 1) := by decide +kernel
theorem dX7_unclip_59 : decode cX7_unclip 59 = .ok (.goto 7, 3) := by decide +kernel
theorem dX7_unclip_62 : decode cX7_unclip 62 = .ok (.iload_n 2, 1) := by decide +kernel
theorem dX7_unclip_63 : decode cX7_unclip 63 = .ok (.invokestatic 195, 3) := by decide +kernel
theorem dX7_unclip_66 : decode cX7_unclip 66 = .ok (.ireturn, 1) := by decide +kernel
theorem dX7_cost_0 : decode cX7_cost 0 = .ok (.aload_n 0, 1) := by decide +kernel
theorem dX7_cost_1 : decode cX7_cost 1 = .ok (.invokevirtual 168, 3) := by decide +kernel
theorem dX7_cost_4 : decode cX7_cost 4 = .ok (.iconst 0, 1) := by decide +kernel
theorem dX7_cost_5 : decode cX7_cost 5 = .ok (.istore_n 1, 1) := by decide +kernel
theorem dX7_cost_6 : decode cX7_cost 6 = .ok (.iconst 0, 1) := by decide +kernel
theorem dX7_cost_7 : decode cX7_cost 7 = .ok (.istore_n 2, 1) := by decide +kernel
theorem dX7_cost_8 : decode cX7_cost 8 = .ok (.iload_n 2, 1) := by decide +kernel
theorem dX7_cost_9 : decode cX7_cost 9 = .ok (.aload_n 0, 1) := by decide +kernel
theorem dX7_cost_10 : decode cX7_cost 10 = .ok (.getfield 26, 3) := by decide +kernel
theorem dX7_cost_13 : decode cX7_cost 13 = .ok (.getfield 107, 3) := by decide +kernel
theorem dX7_cost_16 : decode cX7_cost 16 = .ok (.if_icmp .ge 35, 3) := by decide +kernel
theorem dX7_cost_19 : decode cX7_cost 19 = .ok (.iload_n 1, 1) := by decide +kernel
theorem dX7_cost_20 : decode cX7_cost 20 = .ok (.aload_n 0, 1) := by decide +kernel
theorem dX7_cost_21 : decode cX7_cost 21 = .ok (.iconst 2, 1) := by decide +kernel
theorem dX7_cost_22 : decode cX7_cost 22 = .ok (.aload_n 0, 1) := by decide +kernel
theorem dX7_cost_23 : decode cX7_cost 23 = .ok (.getfield 26, 3) := by decide +kernel
theorem dX7_cost_26 : decode cX7_cost 26 = .ok (.getfield 200, 3) := by decide +kernel
theorem dX7_cost_29 : decode cX7_cost 29 = .ok (.iload_n 2, 1) := by decide +kernel
theorem dX7_cost_30 : decode cX7_cost 30 = .ok (.iaload, 1) := by decide +kernel
theorem dX7_cost_31 : decode cX7_cost 31 = .ok (.aload_n 0, 1) := by decide +kernel
theorem dX7_cost_32 : decode cX7_cost 32 = .ok (.getfield 26, 3) := by decide +kernel
theorem dX7_cost_35 : decode cX7_cost 35 = .ok (.getfield 203, 3) := by decide +kernel
theorem dX7_cost_38 : decode cX7_cost 38 = .ok (.iload_n 2, 1) := by decide +kernel
theorem dX7_cost_39 : decode cX7_cost 39 = .ok (.iaload, 1) := by decide +kernel
theorem dX7_cost_40 : decode cX7_cost 40 = .ok (.invokevirtual 144, 3) := by decide +kernel
theorem dX7_cost_43 : decode cX7_cost 43 = .ok (.iadd, 1) := by decide +kernel
theorem dX7_cost_44 : decode cX7_cost 44 = .ok (.istore_n 1, 1) := by decide +kernel
theorem dX7_cost_45 : decode cX7_cost 45 = .ok (.iinc 2 1, 3) := by decide +kernel
theorem dX7_cost_48 : decode cX7_cost 48 = .ok (.goto (-40), 3) := by decide +kernel
theorem dX7_cost_51 : decode cX7_cost 51 = .ok (.iload_n 1, 1) := by decide +kernel
theorem dX7_cost_52 : decode cX7_cost 52 = .ok (.ireturn, 1) := by decide +kernel
theorem dX7_atOdds_0 : decode cX7_atOdds 0 = .ok (.iload_n 1, 1) := by decide +kernel
theorem dX7_atOdds_1 : decode cX7_atOdds 1 = .ok (.iconst 0, 1) := by decide +kernel
theorem dX7_atOdds_2 : decode cX7_atOdds 2 = .ok (.iconst 1, 1) := by decide +kernel
theorem dX7_atOdds_3 : decode cX7_atOdds 3 = .ok (.invokestatic 100, 3) := by decide +kernel
theorem dX7_atOdds_6 : decode cX7_atOdds 6 = .ok (.ifCond .ne 6, 3) := by decide +kernel
theorem dX7_atOdds_9 : decode cX7_atOdds 9 = .ok (.bipush (-2), 2) := by decide +kernel
theorem dX7_atOdds_11 : decode cX7_atOdds 11 = .ok (.ireturn, 1) := by decide +kernel
theorem dX7_atOdds_12 : decode cX7_atOdds 12 = .ok (.iload_n 1, 1) := by decide +kernel
theorem dX7_atOdds_13 : decode cX7_atOdds 13 = .ok (.ifCond .ne 10, 3) := by decide +kernel
theorem dX7_atOdds_16 : decode cX7_atOdds 16 = .ok (.aload_n 0, 1) := by decide +kernel
theorem dX7_atOdds_17 : decode cX7_atOdds 17 = .ok (.invokevirtual 206, 3) := by decide +kernel
theorem dX7_atOdds_20 : decode cX7_atOdds 20 = .ok (.goto 7, 3) := by decide +kernel
theorem dX7_atOdds_23 : decode cX7_atOdds 23 = .ok (.aload_n 0, 1) := by decide +kernel
theorem dX7_atOdds_24 : decode cX7_atOdds 24 = .ok (.invokevirtual 209, 3) := by decide +kernel
theorem dX7_atOdds_27 : decode cX7_atOdds 27 = .ok (.ireturn, 1) := by decide +kernel
theorem dX7_best_0 : decode cX7_best 0 = .ok (.iload_n 1, 1) := by decide +kernel
theorem dX7_best_1 : decode cX7_best 1 = .ok (.iconst 0, 1) := by decide +kernel
theorem dX7_best_2 : decode cX7_best 2 = .ok (.aload_n 0, 1) := by decide +kernel
theorem dX7_best_3 : decode cX7_best 3 = .ok (.getfield 10, 3) := by decide +kernel
theorem dX7_best_6 : decode cX7_best 6 = .ok (.getfield 110, 3) := by decide +kernel
theorem dX7_best_9 : decode cX7_best 9 = .ok (.iconst 1, 1) := by decide +kernel
theorem dX7_best_10 : decode cX7_best 10 = .ok (.isub, 1) := by decide +kernel
theorem dX7_best_11 : decode cX7_best 11 = .ok (.invokestatic 100, 3) := by decide +kernel
theorem dX7_best_14 : decode cX7_best 14 = .ok (.ifCond .ne 6, 3) := by decide +kernel
theorem dX7_best_17 : decode cX7_best 17 = .ok (.bipush (-2), 2) := by decide +kernel
theorem dX7_best_19 : decode cX7_best 19 = .ok (.ireturn, 1) := by decide +kernel
theorem dX7_best_20 : decode cX7_best 20 = .ok (.aload_n 0, 1) := by decide +kernel
theorem dX7_best_21 : decode cX7_best 21 = .ok (.invokevirtual 209, 3) := by decide +kernel
theorem dX7_best_24 : decode cX7_best 24 = .ok (.pop, 1) := by decide +kernel
theorem dX7_best_25 : decode cX7_best 25 = .ok (.aload_n 0, 1) := by decide +kernel
theorem dX7_best_26 : decode cX7_best 26 = .ok (.getfield 36, 3) := by decide +kernel
theorem dX7_best_29 : decode cX7_best 29 = .ok (.getfield 212, 3) := by decide +kernel
theorem dX7_best_32 : decode cX7_best 32 = .ok (.iload_n 1, 1) := by decide +kernel
theorem dX7_best_33 : decode cX7_best 33 = .ok (.iaload, 1) := by decide +kernel
theorem dX7_best_34 : decode cX7_best 34 = .ok (.ireturn, 1) := by decide +kernel
theorem dX7_swaps_0 : decode cX7_swaps 0 = .ok (.aload_n 0, 1) := by decide +kernel
theorem dX7_swaps_1 : decode cX7_swaps 1 = .ok (.iload_n 1, 1) := by decide +kernel
theorem dX7_swaps_2 : decode cX7_swaps 2 = .ok (.invokevirtual 215, 3) := by decide +kernel
theorem dX7_swaps_5 : decode cX7_swaps 5 = .ok (.istore_n 2, 1) := by decide +kernel
theorem dX7_swaps_6 : decode cX7_swaps 6 = .ok (.iload_n 2, 1) := by decide +kernel
theorem dX7_swaps_7 : decode cX7_swaps 7 = .ok (.ifCond .eq 5, 3) := by decide +kernel
theorem dX7_swaps_10 : decode cX7_swaps 10 = .ok (.iload_n 2, 1) := by decide +kernel
theorem dX7_swaps_11 : decode cX7_swaps 11 = .ok (.ireturn, 1) := by decide +kernel
theorem dX7_swaps_12 : decode cX7_swaps 12 = .ok (.aload_n 0, 1) := by decide +kernel
theorem dX7_swaps_13 : decode cX7_swaps 13 = .ok (.getfield 65, 3) := by decide +kernel
theorem dX7_swaps_16 : decode cX7_swaps 16 = .ok (.iload_n 1, 1) := by decide +kernel
theorem dX7_swaps_17 : decode cX7_swaps 17 = .ok (.aaload, 1) := by decide +kernel
theorem dX7_swaps_18 : decode cX7_swaps 18 = .ok (.astore_n 3, 1) := by decide +kernel
theorem dX7_swaps_19 : decode cX7_swaps 19 = .ok (.iconst 0, 1) := by decide +kernel
theorem dX7_swaps_20 : decode cX7_swaps 20 = .ok (.istore 4, 2) := by decide +kernel
theorem dX7_swaps_22 : decode cX7_swaps 22 = .ok (.iconst 0, 1) := by decide +kernel
theorem dX7_swaps_23 : decode cX7_swaps 23 = .ok (.istore 5, 2) := by decide +kernel
theorem dX7_swaps_25 : decode cX7_swaps 25 = .ok (.iload 5, 2) := by decide +kernel
theorem dX7_swaps_27 : decode cX7_swaps 27 = .ok (.aload_n 3, 1) := by decide +kernel
theorem dX7_swaps_28 : decode cX7_swaps 28 = .ok (.getfield 218, 3) := by decide +kernel
theorem dX7_swaps_31 : decode cX7_swaps 31 = .ok (.if_icmp .ge 64, 3) := by decide +kernel
theorem dX7_swaps_34 : decode cX7_swaps 34 = .ok (.iload 5, 2) := by decide +kernel
theorem dX7_swaps_36 : decode cX7_swaps 36 = .ok (.iconst 1, 1) := by decide +kernel
theorem dX7_swaps_37 : decode cX7_swaps 37 = .ok (.iadd, 1) := by decide +kernel
theorem dX7_swaps_38 : decode cX7_swaps 38 = .ok (.istore 6, 2) := by decide +kernel
theorem dX7_swaps_40 : decode cX7_swaps 40 = .ok (.iload 6, 2) := by decide +kernel
theorem dX7_swaps_42 : decode cX7_swaps 42 = .ok (.aload_n 3, 1) := by decide +kernel
theorem dX7_swaps_43 : decode cX7_swaps 43 = .ok (.getfield 218, 3) := by decide +kernel
theorem dX7_swaps_46 : decode cX7_swaps 46 = .ok (.if_icmp .ge 43, 3) := by decide +kernel
theorem dX7_swaps_49 : decode cX7_swaps 49 = .ok (.aload_n 0, 1) := by decide +kernel
theorem dX7_swaps_50 : decode cX7_swaps 50 = .ok (.getfield 10, 3) := by decide +kernel
theorem dX7_swaps_53 : decode cX7_swaps 53 = .ok (.aload_n 3, 1) := by decide +kernel
theorem dX7_swaps_54 : decode cX7_swaps 54 = .ok (.getfield 219, 3) := by decide +kernel
theorem dX7_swaps_57 : decode cX7_swaps 57 = .ok (.iload 5, 2) := by decide +kernel
theorem dX7_swaps_59 : decode cX7_swaps 59 = .ok (.iaload, 1) := by decide +kernel
theorem dX7_swaps_60 : decode cX7_swaps 60 = .ok (.invokevirtual 135, 3) := by decide +kernel
theorem dX7_swaps_63 : decode cX7_swaps 63 = .ok (.aload_n 0, 1) := by decide +kernel
theorem dX7_swaps_64 : decode cX7_swaps 64 = .ok (.getfield 10, 3) := by decide +kernel
theorem dX7_swaps_67 : decode cX7_swaps 67 = .ok (.aload_n 3, 1) := by decide +kernel
theorem dX7_swaps_68 : decode cX7_swaps 68 = .ok (.getfield 219, 3) := by decide +kernel
theorem dX7_swaps_71 : decode cX7_swaps 71 = .ok (.iload 6, 2) := by decide +kernel
theorem dX7_swaps_73 : decode cX7_swaps 73 = .ok (.iaload, 1) := by decide +kernel
theorem dX7_swaps_74 : decode cX7_swaps 74 = .ok (.invokevirtual 135, 3) := by decide +kernel
theorem dX7_swaps_77 : decode cX7_swaps 77 = .ok (.if_icmp .le 6, 3) := by decide +kernel
theorem dX7_swaps_80 : decode cX7_swaps 80 = .ok (.iinc 4 1, 3) := by decide +kernel
theorem dX7_swaps_83 : decode cX7_swaps 83 = .ok (.iinc 6 1, 3) := by decide +kernel
theorem dX7_swaps_86 : decode cX7_swaps 86 = .ok (.goto (-46), 3) := by decide +kernel
theorem dX7_swaps_89 : decode cX7_swaps 89 = .ok (.iinc 5 1, 3) := by decide +kernel
theorem dX7_swaps_92 : decode cX7_swaps 92 = .ok (.goto (-67), 3) := by decide +kernel
theorem dX7_swaps_95 : decode cX7_swaps 95 = .ok (.iload 4, 2) := by decide +kernel
theorem dX7_swaps_97 : decode cX7_swaps 97 = .ok (.ireturn, 1) := by decide +kernel
theorem dX7_post_0 : decode cX7_post 0 = .ok (.iload_n 1, 1) := by decide +kernel
theorem dX7_post_1 : decode cX7_post 1 = .ok (.iconst 0, 1) := by decide +kernel
theorem dX7_post_2 : decode cX7_post 2 = .ok (.aload_n 0, 1) := by decide +kernel
theorem dX7_post_3 : decode cX7_post 3 = .ok (.getfield 10, 3) := by decide +kernel
theorem dX7_post_6 : decode cX7_post 6 = .ok (.getfield 110, 3) := by decide +kernel
theorem dX7_post_9 : decode cX7_post 9 = .ok (.invokestatic 100, 3) := by decide +kernel
theorem dX7_post_12 : decode cX7_post 12 = .ok (.ifCond .ne 6, 3) := by decide +kernel
theorem dX7_post_15 : decode cX7_post 15 = .ok (.ldc 143, 2) := by decide +kernel
theorem dX7_post_17 : decode cX7_post 17 = .ok (.ireturn, 1) := by decide +kernel
theorem dX7_post_18 : decode cX7_post 18 = .ok (.iload_n 2, 1) := by decide +kernel
theorem dX7_post_19 : decode cX7_post 19 = .ok (.tableswitch 43 0 2 #[25, 31, 37], 25) := by decide +kernel
theorem dX7_post_44 : decode cX7_post 44 = .ok (.aload_n 0, 1) := by decide +kernel
theorem dX7_post_45 : decode cX7_post 45 = .ok (.iload_n 1, 1) := by decide +kernel
theorem dX7_post_46 : decode cX7_post 46 = .ok (.invokevirtual 222, 3) := by decide +kernel
theorem dX7_post_49 : decode cX7_post 49 = .ok (.ireturn, 1) := by decide +kernel
theorem dX7_post_50 : decode cX7_post 50 = .ok (.aload_n 0, 1) := by decide +kernel
theorem dX7_post_51 : decode cX7_post 51 = .ok (.iload_n 1, 1) := by decide +kernel
theorem dX7_post_52 : decode cX7_post 52 = .ok (.invokevirtual 225, 3) := by decide +kernel
theorem dX7_post_55 : decode cX7_post 55 = .ok (.ireturn, 1) := by decide +kernel
theorem dX7_post_56 : decode cX7_post 56 = .ok (.aload_n 0, 1) := by decide +kernel
theorem dX7_post_57 : decode cX7_post 57 = .ok (.iload_n 1, 1) := by decide +kernel
theorem dX7_post_58 : decode cX7_post 58 = .ok (.invokevirtual 228, 3) := by decide +kernel
theorem dX7_post_61 : decode cX7_post 61 = .ok (.ireturn, 1) := by decide +kernel
theorem dX7_post_62 : decode cX7_post 62 = .ok (.ldc 143, 2) := by decide +kernel
theorem dX7_post_64 : decode cX7_post 64 = .ok (.ireturn, 1) := by decide +kernel
theorem dX7_bestPost_0 : decode cX7_bestPost 0 = .ok (.iload_n 1, 1) := by decide +kernel
theorem dX7_bestPost_1 : decode cX7_bestPost 1 = .ok (.iconst 0, 1) := by decide +kernel
theorem dX7_bestPost_2 : decode cX7_bestPost 2 = .ok (.iconst 1, 1) := by decide +kernel
theorem dX7_bestPost_3 : decode cX7_bestPost 3 = .ok (.invokestatic 100, 3) := by decide +kernel
theorem dX7_bestPost_6 : decode cX7_bestPost 6 = .ok (.ifCond .ne 6, 3) := by decide +kernel
theorem dX7_bestPost_9 : decode cX7_bestPost 9 = .ok (.bipush (-2), 2) := by decide +kernel
theorem dX7_bestPost_11 : decode cX7_bestPost 11 = .ok (.ireturn, 1) := by decide +kernel
theorem dX7_bestPost_12 : decode cX7_bestPost 12 = .ok (.iconst 0, 1) := by decide +kernel
theorem dX7_bestPost_13 : decode cX7_bestPost 13 = .ok (.istore_n 2, 1) := by decide +kernel
theorem dX7_bestPost_14 : decode cX7_bestPost 14 = .ok (.aload_n 0, 1) := by decide +kernel
theorem dX7_bestPost_15 : decode cX7_bestPost 15 = .ok (.iconst 0, 1) := by decide +kernel
theorem dX7_bestPost_16 : decode cX7_bestPost 16 = .ok (.invokevirtual 225, 3) := by decide +kernel
theorem dX7_bestPost_19 : decode cX7_bestPost 19 = .ok (.istore_n 3, 1) := by decide +kernel
theorem dX7_bestPost_20 : decode cX7_bestPost 20 = .ok (.iconst 1, 1) := by decide +kernel
theorem dX7_bestPost_21 : decode cX7_bestPost 21 = .ok (.istore 4, 2) := by decide +kernel
theorem dX7_bestPost_23 : decode cX7_bestPost 23 = .ok (.iload 4, 2) := by decide +kernel
theorem dX7_bestPost_25 : decode cX7_bestPost 25 = .ok (.aload_n 0, 1) := by decide +kernel
theorem dX7_bestPost_26 : decode cX7_bestPost 26 = .ok (.getfield 10, 3) := by decide +kernel
theorem dX7_bestPost_29 : decode cX7_bestPost 29 = .ok (.getfield 110, 3) := by decide +kernel
theorem dX7_bestPost_32 : decode cX7_bestPost 32 = .ok (.if_icmp .gt 29, 3) := by decide +kernel
theorem dX7_bestPost_35 : decode cX7_bestPost 35 = .ok (.aload_n 0, 1) := by decide +kernel
theorem dX7_bestPost_36 : decode cX7_bestPost 36 = .ok (.iload 4, 2) := by decide +kernel
theorem dX7_bestPost_38 : decode cX7_bestPost 38 = .ok (.invokevirtual 225, 3) := by decide +kernel
theorem dX7_bestPost_41 : decode cX7_bestPost 41 = .ok (.istore 5, 2) := by decide +kernel
theorem dX7_bestPost_43 : decode cX7_bestPost 43 = .ok (.iload 5, 2) := by decide +kernel
theorem dX7_bestPost_45 : decode cX7_bestPost 45 = .ok (.iload_n 3, 1) := by decide +kernel
theorem dX7_bestPost_46 : decode cX7_bestPost 46 = .ok (.if_icmp .ge 9, 3) := by decide +kernel
theorem dX7_bestPost_49 : decode cX7_bestPost 49 = .ok (.iload 5, 2) := by decide +kernel
theorem dX7_bestPost_51 : decode cX7_bestPost 51 = .ok (.istore_n 3, 1) := by decide +kernel
theorem dX7_bestPost_52 : decode cX7_bestPost 52 = .ok (.iload 4, 2) := by decide +kernel
theorem dX7_bestPost_54 : decode cX7_bestPost 54 = .ok (.istore_n 2, 1) := by decide +kernel
theorem dX7_bestPost_55 : decode cX7_bestPost 55 = .ok (.iinc 4 1, 3) := by decide +kernel
theorem dX7_bestPost_58 : decode cX7_bestPost 58 = .ok (.goto (-35), 3) := by decide +kernel
theorem dX7_bestPost_61 : decode cX7_bestPost 61 = .ok (.iload_n 1, 1) := by decide +kernel
theorem dX7_bestPost_62 : decode cX7_bestPost 62 = .ok (.ifCond .ne 7, 3) := by decide +kernel
theorem dX7_bestPost_65 : decode cX7_bestPost 65 = .ok (.iload_n 2, 1) := by decide +kernel
theorem dX7_bestPost_66 : decode cX7_bestPost 66 = .ok (.goto 4, 3) := by decide +kernel
theorem dX7_bestPost_69 : decode cX7_bestPost 69 = .ok (.iload_n 3, 1) := by decide +kernel
theorem dX7_bestPost_70 : decode cX7_bestPost 70 = .ok (.ireturn, 1) := by decide +kernel
theorem dX7_seen_0 : decode cX7_seen 0 = .ok (.aload_n 0, 1) := by decide +kernel
theorem dX7_seen_1 : decode cX7_seen 1 = .ok (.iload_n 1, 1) := by decide +kernel
theorem dX7_seen_2 : decode cX7_seen 2 = .ok (.invokevirtual 215, 3) := by decide +kernel
theorem dX7_seen_5 : decode cX7_seen 5 = .ok (.istore 4, 2) := by decide +kernel
theorem dX7_seen_7 : decode cX7_seen 7 = .ok (.iload 4, 2) := by decide +kernel
theorem dX7_seen_9 : decode cX7_seen 9 = .ok (.ifCond .eq 6, 3) := by decide +kernel
theorem dX7_seen_12 : decode cX7_seen 12 = .ok (.iload 4, 2) := by decide +kernel
theorem dX7_seen_14 : decode cX7_seen 14 = .ok (.ireturn, 1) := by decide +kernel
theorem dX7_seen_15 : decode cX7_seen 15 = .ok (.iload_n 2, 1) := by decide +kernel
theorem dX7_seen_16 : decode cX7_seen 16 = .ok (.iconst 0, 1) := by decide +kernel
theorem dX7_seen_17 : decode cX7_seen 17 = .ok (.iconst 4, 1) := by decide +kernel
theorem dX7_seen_18 : decode cX7_seen 18 = .ok (.invokestatic 100, 3) := by decide +kernel
theorem dX7_seen_21 : decode cX7_seen 21 = .ok (.ifCond .eq 12, 3) := by decide +kernel
theorem dX7_seen_24 : decode cX7_seen 24 = .ok (.iload_n 3, 1) := by decide +kernel
theorem dX7_seen_25 : decode cX7_seen 25 = .ok (.iconst 0, 1) := by decide +kernel
theorem dX7_seen_26 : decode cX7_seen 26 = .ok (.iconst 1, 1) := by decide +kernel
theorem dX7_seen_27 : decode cX7_seen 27 = .ok (.invokestatic 100, 3) := by decide +kernel
theorem dX7_seen_30 : decode cX7_seen 30 = .ok (.ifCond .ne 6, 3) := by decide +kernel
theorem dX7_seen_33 : decode cX7_seen 33 = .ok (.bipush (-2), 2) := by decide +kernel
theorem dX7_seen_35 : decode cX7_seen 35 = .ok (.ireturn, 1) := by decide +kernel
theorem dX7_seen_36 : decode cX7_seen 36 = .ok (.iconst 0, 1) := by decide +kernel
theorem dX7_seen_37 : decode cX7_seen 37 = .ok (.istore 5, 2) := by decide +kernel
theorem dX7_seen_39 : decode cX7_seen 39 = .ok (.iload 5, 2) := by decide +kernel
theorem dX7_seen_41 : decode cX7_seen 41 = .ok (.aload_n 0, 1) := by decide +kernel
theorem dX7_seen_42 : decode cX7_seen 42 = .ok (.getfield 10, 3) := by decide +kernel
theorem dX7_seen_45 : decode cX7_seen 45 = .ok (.getfield 110, 3) := by decide +kernel
theorem dX7_seen_48 : decode cX7_seen 48 = .ok (.if_icmp .ge 26, 3) := by decide +kernel
theorem dX7_seen_51 : decode cX7_seen 51 = .ok (.aload_n 0, 1) := by decide +kernel
theorem dX7_seen_52 : decode cX7_seen 52 = .ok (.getfield 69, 3) := by decide +kernel
theorem dX7_seen_55 : decode cX7_seen 55 = .ok (.iload 5, 2) := by decide +kernel
theorem dX7_seen_57 : decode cX7_seen 57 = .ok (.aload_n 0, 1) := by decide +kernel
theorem dX7_seen_58 : decode cX7_seen 58 = .ok (.getfield 10, 3) := by decide +kernel
theorem dX7_seen_61 : decode cX7_seen 61 = .ok (.getfield 152, 3) := by decide +kernel
theorem dX7_seen_64 : decode cX7_seen 64 = .ok (.iload 5, 2) := by decide +kernel
theorem dX7_seen_66 : decode cX7_seen 66 = .ok (.iaload, 1) := by decide +kernel
theorem dX7_seen_67 : decode cX7_seen 67 = .ok (.iastore, 1) := by decide +kernel
theorem dX7_seen_68 : decode cX7_seen 68 = .ok (.iinc 5 1, 3) := by decide +kernel
theorem dX7_seen_71 : decode cX7_seen 71 = .ok (.goto (-32), 3) := by decide +kernel
theorem dX7_seen_74 : decode cX7_seen 74 = .ok (.aload_n 0, 1) := by decide +kernel
theorem dX7_seen_75 : decode cX7_seen 75 = .ok (.aload_n 0, 1) := by decide +kernel
theorem dX7_seen_76 : decode cX7_seen 76 = .ok (.getfield 65, 3) := by decide +kernel
theorem dX7_seen_79 : decode cX7_seen 79 = .ok (.iload_n 1, 1) := by decide +kernel
theorem dX7_seen_80 : decode cX7_seen 80 = .ok (.aaload, 1) := by decide +kernel
theorem dX7_seen_81 : decode cX7_seen 81 = .ok (.iconst 0, 1) := by decide +kernel
theorem dX7_seen_82 : decode cX7_seen 82 = .ok (.iload_n 2, 1) := by decide +kernel
theorem dX7_seen_83 : decode cX7_seen 83 = .ok (.iload_n 3, 1) := by decide +kernel
theorem dX7_seen_84 : decode cX7_seen 84 = .ok (.iconst 1, 1) := by decide +kernel
theorem dX7_seen_85 : decode cX7_seen 85 = .ok (.if_icmp .ne 7, 3) := by decide +kernel
theorem dX7_seen_88 : decode cX7_seen 88 = .ok (.iconst 1, 1) := by decide +kernel
theorem dX7_seen_89 : decode cX7_seen 89 = .ok (.goto 4, 3) := by decide +kernel
theorem dX7_seen_92 : decode cX7_seen 92 = .ok (.iconst 0, 1) := by decide +kernel
theorem dX7_seen_93 : decode cX7_seen 93 = .ok (.invokevirtual 231, 3) := by decide +kernel
theorem dX7_seen_96 : decode cX7_seen 96 = .ok (.ireturn, 1) := by decide +kernel
theorem dX7_fetch_0 : decode cX7_fetch 0 = .ok (.aload_n 0, 1) := by decide +kernel
theorem dX7_fetch_1 : decode cX7_fetch 1 = .ok (.invokevirtual 235, 3) := by decide +kernel
theorem dX7_fetch_4 : decode cX7_fetch 4 = .ok (.ireturn, 1) := by decide +kernel
theorem dX7_fetched_0 : decode cX7_fetched 0 = .ok (.iload_n 1, 1) := by decide +kernel
theorem dX7_fetched_1 : decode cX7_fetched 1 = .ok (.iconst 0, 1) := by decide +kernel
theorem dX7_fetched_2 : decode cX7_fetched 2 = .ok (.aload_n 0, 1) := by decide +kernel
theorem dX7_fetched_3 : decode cX7_fetched 3 = .ok (.getfield 10, 3) := by decide +kernel
theorem dX7_fetched_6 : decode cX7_fetched 6 = .ok (.getfield 110, 3) := by decide +kernel
theorem dX7_fetched_9 : decode cX7_fetched 9 = .ok (.iconst 1, 1) := by decide +kernel
theorem dX7_fetched_10 : decode cX7_fetched 10 = .ok (.isub, 1) := by decide +kernel
theorem dX7_fetched_11 : decode cX7_fetched 11 = .ok (.invokestatic 100, 3) := by decide +kernel
theorem dX7_fetched_14 : decode cX7_fetched 14 = .ok (.ifCond .ne 6, 3) := by decide +kernel
theorem dX7_fetched_17 : decode cX7_fetched 17 = .ok (.bipush (-2), 2) := by decide +kernel
theorem dX7_fetched_19 : decode cX7_fetched 19 = .ok (.ireturn, 1) := by decide +kernel
theorem dX7_fetched_20 : decode cX7_fetched 20 = .ok (.aload_n 0, 1) := by decide +kernel
theorem dX7_fetched_21 : decode cX7_fetched 21 = .ok (.invokevirtual 235, 3) := by decide +kernel
theorem dX7_fetched_24 : decode cX7_fetched 24 = .ok (.pop, 1) := by decide +kernel
theorem dX7_fetched_25 : decode cX7_fetched 25 = .ok (.aload_n 0, 1) := by decide +kernel
theorem dX7_fetched_26 : decode cX7_fetched 26 = .ok (.getfield 36, 3) := by decide +kernel
theorem dX7_fetched_29 : decode cX7_fetched 29 = .ok (.getfield 212, 3) := by decide +kernel
theorem dX7_fetched_32 : decode cX7_fetched 32 = .ok (.iload_n 1, 1) := by decide +kernel
theorem dX7_fetched_33 : decode cX7_fetched 33 = .ok (.iaload, 1) := by decide +kernel
theorem dX7_fetched_34 : decode cX7_fetched 34 = .ok (.ireturn, 1) := by decide +kernel
theorem dX7_walk_0 : decode cX7_walk 0 = .ok (.aload_n 0, 1) := by decide +kernel
theorem dX7_walk_1 : decode cX7_walk 1 = .ok (.getfield 36, 3) := by decide +kernel
theorem dX7_walk_4 : decode cX7_walk 4 = .ok (.aload_n 0, 1) := by decide +kernel
theorem dX7_walk_5 : decode cX7_walk 5 = .ok (.getfield 10, 3) := by decide +kernel
theorem dX7_walk_8 : decode cX7_walk 8 = .ok (.getfield 110, 3) := by decide +kernel
theorem dX7_walk_11 : decode cX7_walk 11 = .ok (.invokevirtual 238, 3) := by decide +kernel
theorem dX7_walk_14 : decode cX7_walk 14 = .ok (.iconst 0, 1) := by decide +kernel
theorem dX7_walk_15 : decode cX7_walk 15 = .ok (.istore_n 1, 1) := by decide +kernel
theorem dX7_walk_16 : decode cX7_walk 16 = .ok (.iload_n 1, 1) := by decide +kernel
theorem dX7_walk_17 : decode cX7_walk 17 = .ok (.aload_n 0, 1) := by decide +kernel
theorem dX7_walk_18 : decode cX7_walk 18 = .ok (.getfield 10, 3) := by decide +kernel
theorem dX7_walk_21 : decode cX7_walk 21 = .ok (.getfield 110, 3) := by decide +kernel
theorem dX7_walk_24 : decode cX7_walk 24 = .ok (.if_icmp .ge 67, 3) := by decide +kernel
theorem dX7_walk_27 : decode cX7_walk 27 = .ok (.iload_n 1, 1) := by decide +kernel
theorem dX7_walk_28 : decode cX7_walk 28 = .ok (.iconst 1, 1) := by decide +kernel
theorem dX7_walk_29 : decode cX7_walk 29 = .ok (.iadd, 1) := by decide +kernel
theorem dX7_walk_30 : decode cX7_walk 30 = .ok (.istore_n 2, 1) := by decide +kernel
theorem dX7_walk_31 : decode cX7_walk 31 = .ok (.iload_n 2, 1) := by decide +kernel
theorem dX7_walk_32 : decode cX7_walk 32 = .ok (.aload_n 0, 1) := by decide +kernel
theorem dX7_walk_33 : decode cX7_walk 33 = .ok (.getfield 10, 3) := by decide +kernel
theorem dX7_walk_36 : decode cX7_walk 36 = .ok (.getfield 110, 3) := by decide +kernel
theorem dX7_walk_39 : decode cX7_walk 39 = .ok (.if_icmp .ge 46, 3) := by decide +kernel
theorem dX7_walk_42 : decode cX7_walk 42 = .ok (.aload_n 0, 1) := by decide +kernel
theorem dX7_walk_43 : decode cX7_walk 43 = .ok (.iconst 0, 1) := by decide +kernel
theorem dX7_walk_44 : decode cX7_walk 44 = .ok (.iload_n 1, 1) := by decide +kernel
theorem dX7_walk_45 : decode cX7_walk 45 = .ok (.iload_n 2, 1) := by decide +kernel
theorem dX7_walk_46 : decode cX7_walk 46 = .ok (.iconst 1, 1) := by decide +kernel
theorem dX7_walk_47 : decode cX7_walk 47 = .ok (.aload_n 0, 1) := by decide +kernel
theorem dX7_walk_48 : decode cX7_walk 48 = .ok (.getfield 10, 3) := by decide +kernel
theorem dX7_walk_51 : decode cX7_walk 51 = .ok (.iload_n 1, 1) := by decide +kernel
theorem dX7_walk_52 : decode cX7_walk 52 = .ok (.invokevirtual 135, 3) := by decide +kernel
theorem dX7_walk_55 : decode cX7_walk 55 = .ok (.invokevirtual 241, 3) := by decide +kernel
theorem dX7_walk_58 : decode cX7_walk 58 = .ok (.istore_n 3, 1) := by decide +kernel
theorem dX7_walk_59 : decode cX7_walk 59 = .ok (.aload_n 0, 1) := by decide +kernel
theorem dX7_walk_60 : decode cX7_walk 60 = .ok (.getfield 36, 3) := by decide +kernel
theorem dX7_walk_63 : decode cX7_walk 63 = .ok (.iload_n 1, 1) := by decide +kernel
theorem dX7_walk_64 : decode cX7_walk 64 = .ok (.iload_n 2, 1) := by decide +kernel
theorem dX7_walk_65 : decode cX7_walk 65 = .ok (.iload_n 3, 1) := by decide +kernel
theorem dX7_walk_66 : decode cX7_walk 66 = .ok (.invokevirtual 245, 3) := by decide +kernel
theorem dX7_walk_69 : decode cX7_walk 69 = .ok (.aload_n 0, 1) := by decide +kernel
theorem dX7_walk_70 : decode cX7_walk 70 = .ok (.getfield 36, 3) := by decide +kernel
theorem dX7_walk_73 : decode cX7_walk 73 = .ok (.iload_n 2, 1) := by decide +kernel
theorem dX7_walk_74 : decode cX7_walk 74 = .ok (.iload_n 1, 1) := by decide +kernel
theorem dX7_walk_75 : decode cX7_walk 75 = .ok (.iload_n 3, 1) := by decide +kernel
theorem dX7_walk_76 : decode cX7_walk 76 = .ok (.invokevirtual 245, 3) := by decide +kernel
theorem dX7_walk_79 : decode cX7_walk 79 = .ok (.iinc 2 1, 3) := by decide +kernel
theorem dX7_walk_82 : decode cX7_walk 82 = .ok (.goto (-51), 3) := by decide +kernel
theorem dX7_walk_85 : decode cX7_walk 85 = .ok (.iinc 1 1, 3) := by decide +kernel
theorem dX7_walk_88 : decode cX7_walk 88 = .ok (.goto (-72), 3) := by decide +kernel
theorem dX7_walk_91 : decode cX7_walk 91 = .ok (.aload_n 0, 1) := by decide +kernel
theorem dX7_walk_92 : decode cX7_walk 92 = .ok (.getfield 36, 3) := by decide +kernel
theorem dX7_walk_95 : decode cX7_walk 95 = .ok (.invokevirtual 249, 3) := by decide +kernel
theorem dX7_walk_98 : decode cX7_walk 98 = .ok (.ireturn, 1) := by decide +kernel
theorem dX7_take_0 : decode cX7_take 0 = .ok (.iload_n 1, 1) := by decide +kernel
theorem dX7_take_1 : decode cX7_take 1 = .ok (.iconst 0, 1) := by decide +kernel
theorem dX7_take_2 : decode cX7_take 2 = .ok (.iconst 1, 1) := by decide +kernel
theorem dX7_take_3 : decode cX7_take 3 = .ok (.invokestatic 100, 3) := by decide +kernel
theorem dX7_take_6 : decode cX7_take 6 = .ok (.ifCond .ne 6, 3) := by decide +kernel
theorem dX7_take_9 : decode cX7_take 9 = .ok (.ldc 143, 2) := by decide +kernel
theorem dX7_take_11 : decode cX7_take 11 = .ok (.ireturn, 1) := by decide +kernel
theorem dX7_take_12 : decode cX7_take 12 = .ok (.aload_n 0, 1) := by decide +kernel
theorem dX7_take_13 : decode cX7_take 13 = .ok (.invokevirtual 252, 3) := by decide +kernel
theorem dX7_take_16 : decode cX7_take 16 = .ok (.iconst 0, 1) := by decide +kernel
theorem dX7_take_17 : decode cX7_take 17 = .ok (.istore_n 2, 1) := by decide +kernel
theorem dX7_take_18 : decode cX7_take 18 = .ok (.iconst 0, 1) := by decide +kernel
theorem dX7_take_19 : decode cX7_take 19 = .ok (.istore_n 3, 1) := by decide +kernel
theorem dX7_take_20 : decode cX7_take 20 = .ok (.iconst 1, 1) := by decide +kernel
theorem dX7_take_21 : decode cX7_take 21 = .ok (.istore 4, 2) := by decide +kernel
theorem dX7_take_23 : decode cX7_take 23 = .ok (.iload 4, 2) := by decide +kernel
theorem dX7_take_25 : decode cX7_take 25 = .ok (.aload_n 0, 1) := by decide +kernel
theorem dX7_take_26 : decode cX7_take 26 = .ok (.invokevirtual 189, 3) := by decide +kernel
theorem dX7_take_29 : decode cX7_take 29 = .ok (.if_icmp .gt 29, 3) := by decide +kernel
theorem dX7_take_32 : decode cX7_take 32 = .ok (.aload_n 0, 1) := by decide +kernel
theorem dX7_take_33 : decode cX7_take 33 = .ok (.iload 4, 2) := by decide +kernel
theorem dX7_take_35 : decode cX7_take 35 = .ok (.invokevirtual 255, 3) := by decide +kernel
theorem dX7_take_38 : decode cX7_take 38 = .ok (.istore 5, 2) := by decide +kernel
theorem dX7_take_40 : decode cX7_take 40 = .ok (.iload 5, 2) := by decide +kernel
theorem dX7_take_42 : decode cX7_take 42 = .ok (.iload_n 3, 1) := by decide +kernel
theorem dX7_take_43 : decode cX7_take 43 = .ok (.if_icmp .le 9, 3) := by decide +kernel
theorem dX7_take_46 : decode cX7_take 46 = .ok (.iload 5, 2) := by decide +kernel
theorem dX7_take_48 : decode cX7_take 48 = .ok (.istore_n 3, 1) := by decide +kernel
theorem dX7_take_49 : decode cX7_take 49 = .ok (.iload 4, 2) := by decide +kernel
theorem dX7_take_51 : decode cX7_take 51 = .ok (.istore_n 2, 1) := by decide +kernel
theorem dX7_take_52 : decode cX7_take 52 = .ok (.iinc 4 1, 3) := by decide +kernel
theorem dX7_take_55 : decode cX7_take 55 = .ok (.goto (-32), 3) := by decide +kernel
theorem dX7_take_58 : decode cX7_take 58 = .ok (.iload_n 1, 1) := by decide +kernel
theorem dX7_take_59 : decode cX7_take 59 = .ok (.ifCond .ne 7, 3) := by decide +kernel
theorem dX7_take_62 : decode cX7_take 62 = .ok (.iload_n 2, 1) := by decide +kernel
theorem dX7_take_63 : decode cX7_take 63 = .ok (.goto 4, 3) := by decide +kernel
theorem dX7_take_66 : decode cX7_take 66 = .ok (.iload_n 3, 1) := by decide +kernel
theorem dX7_take_67 : decode cX7_take 67 = .ok (.ireturn, 1) := by decide +kernel
theorem dX7_drawn_0 : decode cX7_drawn 0 = .ok (.iload_n 2, 1) := by decide +kernel
theorem dX7_drawn_1 : decode cX7_drawn 1 = .ok (.iconst 0, 1) := by decide +kernel
theorem dX7_drawn_2 : decode cX7_drawn 2 = .ok (.bipush 40, 2) := by decide +kernel
theorem dX7_drawn_4 : decode cX7_drawn 4 = .ok (.invokestatic 100, 3) := by decide +kernel
theorem dX7_drawn_7 : decode cX7_drawn 7 = .ok (.ifCond .eq 12, 3) := by decide +kernel
theorem dX7_drawn_10 : decode cX7_drawn 10 = .ok (.aload_n 0, 1) := by decide +kernel
theorem dX7_drawn_11 : decode cX7_drawn 11 = .ok (.iload_n 1, 1) := by decide +kernel
theorem dX7_drawn_12 : decode cX7_drawn 12 = .ok (.iload_n 2, 1) := by decide +kernel
theorem dX7_drawn_13 : decode cX7_drawn 13 = .ok (.invokevirtual 258, 3) := by decide +kernel
theorem dX7_drawn_16 : decode cX7_drawn 16 = .ok (.goto 5, 3) := by decide +kernel
theorem dX7_drawn_19 : decode cX7_drawn 19 = .ok (.bipush (-2), 2) := by decide +kernel
theorem dX7_drawn_21 : decode cX7_drawn 21 = .ok (.ireturn, 1) := by decide +kernel
theorem dX7_chance_0 : decode cX7_chance 0 = .ok (.iload_n 2, 1) := by decide +kernel
theorem dX7_chance_1 : decode cX7_chance 1 = .ok (.iconst 1, 1) := by decide +kernel
theorem dX7_chance_2 : decode cX7_chance 2 = .ok (.bipush 20, 2) := by decide +kernel
theorem dX7_chance_4 : decode cX7_chance 4 = .ok (.invokestatic 100, 3) := by decide +kernel
theorem dX7_chance_7 : decode cX7_chance 7 = .ok (.ifCond .eq 34, 3) := by decide +kernel
theorem dX7_chance_10 : decode cX7_chance 10 = .ok (.iload_n 3, 1) := by decide +kernel
theorem dX7_chance_11 : decode cX7_chance 11 = .ok (.iconst 0, 1) := by decide +kernel
theorem dX7_chance_12 : decode cX7_chance 12 = .ok (.bipush 40, 2) := by decide +kernel
theorem dX7_chance_14 : decode cX7_chance 14 = .ok (.invokestatic 100, 3) := by decide +kernel
theorem dX7_chance_17 : decode cX7_chance 17 = .ok (.ifCond .eq 24, 3) := by decide +kernel
theorem dX7_chance_20 : decode cX7_chance 20 = .ok (.iload 4, 2) := by decide +kernel
theorem dX7_chance_22 : decode cX7_chance 22 = .ok (.iconst 0, 1) := by decide +kernel
theorem dX7_chance_23 : decode cX7_chance 23 = .ok (.bipush 40, 2) := by decide +kernel
theorem dX7_chance_25 : decode cX7_chance 25 = .ok (.invokestatic 100, 3) := by decide +kernel
theorem dX7_chance_28 : decode cX7_chance 28 = .ok (.ifCond .eq 13, 3) := by decide +kernel
theorem dX7_chance_31 : decode cX7_chance 31 = .ok (.iload 5, 2) := by decide +kernel
theorem dX7_chance_33 : decode cX7_chance 33 = .ok (.iconst 0, 1) := by decide +kernel
theorem dX7_chance_34 : decode cX7_chance 34 = .ok (.iconst 1, 1) := by decide +kernel
theorem dX7_chance_35 : decode cX7_chance 35 = .ok (.invokestatic 100, 3) := by decide +kernel
theorem dX7_chance_38 : decode cX7_chance 38 = .ok (.ifCond .ne 7, 3) := by decide +kernel
theorem dX7_chance_41 : decode cX7_chance 41 = .ok (.ldc2_w 261, 3) := by decide +kernel
theorem dX7_chance_44 : decode cX7_chance 44 = .ok (.lreturn, 1) := by decide +kernel
theorem dX7_chance_45 : decode cX7_chance 45 = .ok (.iconst 0, 1) := by decide +kernel
theorem dX7_chance_46 : decode cX7_chance 46 = .ok (.istore 6, 2) := by decide +kernel
theorem dX7_chance_48 : decode cX7_chance 48 = .ok (.iconst 0, 1) := by decide +kernel
theorem dX7_chance_49 : decode cX7_chance 49 = .ok (.istore 7, 2) := by decide +kernel
theorem dX7_chance_51 : decode cX7_chance 51 = .ok (.iload 7, 2) := by decide +kernel
theorem dX7_chance_53 : decode cX7_chance 53 = .ok (.iload_n 2, 1) := by decide +kernel
theorem dX7_chance_54 : decode cX7_chance 54 = .ok (.if_icmp .ge 26, 3) := by decide +kernel
theorem dX7_chance_57 : decode cX7_chance 57 = .ok (.aload_n 0, 1) := by decide +kernel
theorem dX7_chance_58 : decode cX7_chance 58 = .ok (.iload_n 1, 1) := by decide +kernel
theorem dX7_chance_59 : decode cX7_chance 59 = .ok (.iload 7, 2) := by decide +kernel
theorem dX7_chance_61 : decode cX7_chance 61 = .ok (.iadd, 1) := by decide +kernel
theorem dX7_chance_62 : decode cX7_chance 62 = .ok (.iload_n 3, 1) := by decide +kernel
theorem dX7_chance_63 : decode cX7_chance 63 = .ok (.invokevirtual 258, 3) := by decide +kernel
theorem dX7_chance_66 : decode cX7_chance 66 = .ok (.iload 4, 2) := by decide +kernel
theorem dX7_chance_68 : decode cX7_chance 68 = .ok (.if_icmp .gt 6, 3) := by decide +kernel
theorem dX7_chance_71 : decode cX7_chance 71 = .ok (.iinc 6 1, 3) := by decide +kernel
theorem dX7_chance_74 : decode cX7_chance 74 = .ok (.iinc 7 1, 3) := by decide +kernel
theorem dX7_chance_77 : decode cX7_chance 77 = .ok (.goto (-26), 3) := by decide +kernel
theorem dX7_chance_80 : decode cX7_chance 80 = .ok (.iload 6, 2) := by decide +kernel
theorem dX7_chance_82 : decode cX7_chance 82 = .ok (.iload_n 2, 1) := by decide +kernel
theorem dX7_chance_83 : decode cX7_chance 83 = .ok (.invokestatic 263, 3) := by decide +kernel
theorem dX7_chance_86 : decode cX7_chance 86 = .ok (.istore 7, 2) := by decide +kernel
theorem dX7_chance_88 : decode cX7_chance 88 = .ok (.iload 5, 2) := by decide +kernel
theorem dX7_chance_90 : decode cX7_chance 90 = .ok (.ifCond .ne 8, 3) := by decide +kernel
theorem dX7_chance_93 : decode cX7_chance 93 = .ok (.iload 6, 2) := by decide +kernel
theorem dX7_chance_95 : decode cX7_chance 95 = .ok (.goto 4, 3) := by decide +kernel
theorem dX7_chance_98 : decode cX7_chance 98 = .ok (.iload_n 2, 1) := by decide +kernel
theorem dX7_chance_99 : decode cX7_chance 99 = .ok (.iload 7, 2) := by decide +kernel
theorem dX7_chance_101 : decode cX7_chance 101 = .ok (.idiv, 1) := by decide +kernel
theorem dX7_chance_102 : decode cX7_chance 102 = .ok (.i2l, 1) := by decide +kernel
theorem dX7_chance_103 : decode cX7_chance 103 = .ok (.lreturn, 1) := by decide +kernel
theorem dX7_image_0 : decode cX7_image 0 = .ok (.aload_n 0, 1) := by decide +kernel
theorem dX7_image_1 : decode cX7_image 1 = .ok (.getfield 16, 3) := by decide +kernel
theorem dX7_image_4 : decode cX7_image 4 = .ok (.aload_n 0, 1) := by decide +kernel
theorem dX7_image_5 : decode cX7_image 5 = .ok (.getfield 10, 3) := by decide +kernel
theorem dX7_image_8 : decode cX7_image 8 = .ok (.invokevirtual 266, 3) := by decide +kernel
theorem dX7_image_11 : decode cX7_image 11 = .ok (.aload_n 0, 1) := by decide +kernel
theorem dX7_image_12 : decode cX7_image 12 = .ok (.iconst 1, 1) := by decide +kernel
theorem dX7_image_13 : decode cX7_image 13 = .ok (.putfield 19, 3) := by decide +kernel
theorem dX7_image_16 : decode cX7_image 16 = .ok (.aload_n 0, 1) := by decide +kernel
theorem dX7_image_17 : decode cX7_image 17 = .ok (.getfield 10, 3) := by decide +kernel
theorem dX7_image_20 : decode cX7_image 20 = .ok (.getfield 110, 3) := by decide +kernel
theorem dX7_image_23 : decode cX7_image 23 = .ok (.ireturn, 1) := by decide +kernel
theorem dX7_back_0 : decode cX7_back 0 = .ok (.aload_n 0, 1) := by decide +kernel
theorem dX7_back_1 : decode cX7_back 1 = .ok (.getfield 19, 3) := by decide +kernel
theorem dX7_back_4 : decode cX7_back 4 = .ok (.ifCond .ne 6, 3) := by decide +kernel
theorem dX7_back_7 : decode cX7_back 7 = .ok (.bipush (-3), 2) := by decide +kernel
theorem dX7_back_9 : decode cX7_back 9 = .ok (.ireturn, 1) := by decide +kernel
theorem dX7_back_10 : decode cX7_back 10 = .ok (.aload_n 0, 1) := by decide +kernel
theorem dX7_back_11 : decode cX7_back 11 = .ok (.getfield 10, 3) := by decide +kernel
theorem dX7_back_14 : decode cX7_back 14 = .ok (.aload_n 0, 1) := by decide +kernel
theorem dX7_back_15 : decode cX7_back 15 = .ok (.getfield 16, 3) := by decide +kernel
theorem dX7_back_18 : decode cX7_back 18 = .ok (.invokevirtual 266, 3) := by decide +kernel
theorem dX7_back_21 : decode cX7_back 21 = .ok (.aload_n 0, 1) := by decide +kernel
theorem dX7_back_22 : decode cX7_back 22 = .ok (.getfield 10, 3) := by decide +kernel
theorem dX7_back_25 : decode cX7_back 25 = .ok (.getfield 110, 3) := by decide +kernel
theorem dX7_back_28 : decode cX7_back 28 = .ok (.ireturn, 1) := by decide +kernel
theorem dX7_count_0 : decode cX7_count 0 = .ok (.iload_n 1, 1) := by decide +kernel
theorem dX7_count_1 : decode cX7_count 1 = .ok (.tableswitch 91 0 5 #[39, 47, 58, 70, 75, 83], 39) := by decide +kernel
theorem dX7_count_40 : decode cX7_count 40 = .ok (.aload_n 0, 1) := by decide +kernel
theorem dX7_count_41 : decode cX7_count 41 = .ok (.getfield 10, 3) := by decide +kernel
theorem dX7_count_44 : decode cX7_count 44 = .ok (.getfield 110, 3) := by decide +kernel
theorem dX7_count_47 : decode cX7_count 47 = .ok (.ireturn, 1) := by decide +kernel
theorem dX7_count_48 : decode cX7_count 48 = .ok (.aload_n 0, 1) := by decide +kernel
theorem dX7_count_49 : decode cX7_count 49 = .ok (.getfield 10, 3) := by decide +kernel
theorem dX7_count_52 : decode cX7_count 52 = .ok (.getfield 104, 3) := by decide +kernel
theorem dX7_count_55 : decode cX7_count 55 = .ok (.getfield 107, 3) := by decide +kernel
theorem dX7_count_58 : decode cX7_count 58 = .ok (.ireturn, 1) := by decide +kernel
theorem dX7_count_59 : decode cX7_count 59 = .ok (.aload_n 0, 1) := by decide +kernel
theorem dX7_count_60 : decode cX7_count 60 = .ok (.invokevirtual 168, 3) := by decide +kernel
theorem dX7_count_63 : decode cX7_count 63 = .ok (.aload_n 0, 1) := by decide +kernel
theorem dX7_count_64 : decode cX7_count 64 = .ok (.getfield 26, 3) := by decide +kernel
theorem dX7_count_67 : decode cX7_count 67 = .ok (.getfield 107, 3) := by decide +kernel
theorem dX7_count_70 : decode cX7_count 70 = .ok (.ireturn, 1) := by decide +kernel
theorem dX7_count_71 : decode cX7_count 71 = .ok (.aload_n 0, 1) := by decide +kernel
theorem dX7_count_72 : decode cX7_count 72 = .ok (.getfield 53, 3) := by decide +kernel
theorem dX7_count_75 : decode cX7_count 75 = .ok (.ireturn, 1) := by decide +kernel
theorem dX7_count_76 : decode cX7_count 76 = .ok (.aload_n 0, 1) := by decide +kernel
theorem dX7_count_77 : decode cX7_count 77 = .ok (.getfield 43, 3) := by decide +kernel
theorem dX7_count_80 : decode cX7_count 80 = .ok (.getfield 148, 3) := by decide +kernel
theorem dX7_count_83 : decode cX7_count 83 = .ok (.ireturn, 1) := by decide +kernel
theorem dX7_count_84 : decode cX7_count 84 = .ok (.aload_n 0, 1) := by decide +kernel
theorem dX7_count_85 : decode cX7_count 85 = .ok (.getfield 10, 3) := by decide +kernel
theorem dX7_count_88 : decode cX7_count 88 = .ok (.getfield 149, 3) := by decide +kernel
theorem dX7_count_91 : decode cX7_count 91 = .ok (.ireturn, 1) := by decide +kernel
theorem dX7_count_92 : decode cX7_count 92 = .ok (.bipush (-2), 2) := by decide +kernel
theorem dX7_count_94 : decode cX7_count 94 = .ok (.ireturn, 1) := by decide +kernel
theorem dX7_sheet_0 : decode cX7_sheet 0 = .ok (.iload_n 1, 1) := by decide +kernel
theorem dX7_sheet_1 : decode cX7_sheet 1 = .ok (.invokestatic 269, 3) := by decide +kernel
theorem dX7_sheet_4 : decode cX7_sheet 4 = .ok (.ifCond .eq 12, 3) := by decide +kernel
theorem dX7_sheet_7 : decode cX7_sheet 7 = .ok (.iload_n 2, 1) := by decide +kernel
theorem dX7_sheet_8 : decode cX7_sheet 8 = .ok (.iconst (-1), 1) := by decide +kernel
theorem dX7_sheet_9 : decode cX7_sheet 9 = .ok (.iconst 2, 1) := by decide +kernel
theorem dX7_sheet_10 : decode cX7_sheet 10 = .ok (.invokestatic 100, 3) := by decide +kernel
theorem dX7_sheet_13 : decode cX7_sheet 13 = .ok (.ifCond .ne 6, 3) := by decide +kernel
theorem dX7_sheet_16 : decode cX7_sheet 16 = .ok (.bipush (-2), 2) := by decide +kernel
theorem dX7_sheet_18 : decode cX7_sheet 18 = .ok (.ireturn, 1) := by decide +kernel
theorem dX7_sheet_19 : decode cX7_sheet 19 = .ok (.iload_n 2, 1) := by decide +kernel
theorem dX7_sheet_20 : decode cX7_sheet 20 = .ok (.iconst (-1), 1) := by decide +kernel
theorem dX7_sheet_21 : decode cX7_sheet 21 = .ok (.if_icmp .ne 16, 3) := by decide +kernel
theorem dX7_sheet_24 : decode cX7_sheet 24 = .ok (.aload_n 0, 1) := by decide +kernel
theorem dX7_sheet_25 : decode cX7_sheet 25 = .ok (.getfield 65, 3) := by decide +kernel
theorem dX7_sheet_28 : decode cX7_sheet 28 = .ok (.iload_n 1, 1) := by decide +kernel
theorem dX7_sheet_29 : decode cX7_sheet 29 = .ok (.aaload, 1) := by decide +kernel
theorem dX7_sheet_30 : decode cX7_sheet 30 = .ok (.iconst (-1), 1) := by decide +kernel
theorem dX7_sheet_31 : decode cX7_sheet 31 = .ok (.iconst 0, 1) := by decide +kernel
theorem dX7_sheet_32 : decode cX7_sheet 32 = .ok (.invokevirtual 272, 3) := by decide +kernel
theorem dX7_sheet_35 : decode cX7_sheet 35 = .ok (.iconst 1, 1) := by decide +kernel
theorem dX7_sheet_36 : decode cX7_sheet 36 = .ok (.ireturn, 1) := by decide +kernel
theorem dX7_sheet_37 : decode cX7_sheet 37 = .ok (.iload_n 3, 1) := by decide +kernel
theorem dX7_sheet_38 : decode cX7_sheet 38 = .ok (.bipush 40, 2) := by decide +kernel
theorem dX7_sheet_40 : decode cX7_sheet 40 = .ok (.if_icmp .le 6, 3) := by decide +kernel
theorem dX7_sheet_43 : decode cX7_sheet 43 = .ok (.bipush (-2), 2) := by decide +kernel
theorem dX7_sheet_45 : decode cX7_sheet 45 = .ok (.ireturn, 1) := by decide +kernel
theorem dX7_sheet_46 : decode cX7_sheet 46 = .ok (.iload_n 3, 1) := by decide +kernel
theorem dX7_sheet_47 : decode cX7_sheet 47 = .ok (.ifCond .ge 6, 3) := by decide +kernel
theorem dX7_sheet_50 : decode cX7_sheet 50 = .ok (.bipush (-14), 2) := by decide +kernel
theorem dX7_sheet_52 : decode cX7_sheet 52 = .ok (.ireturn, 1) := by decide +kernel
theorem dX7_sheet_53 : decode cX7_sheet 53 = .ok (.aload_n 0, 1) := by decide +kernel
theorem dX7_sheet_54 : decode cX7_sheet 54 = .ok (.getfield 65, 3) := by decide +kernel
theorem dX7_sheet_57 : decode cX7_sheet 57 = .ok (.iload_n 1, 1) := by decide +kernel
theorem dX7_sheet_58 : decode cX7_sheet 58 = .ok (.aaload, 1) := by decide +kernel
theorem dX7_sheet_59 : decode cX7_sheet 59 = .ok (.iload_n 2, 1) := by decide +kernel
theorem dX7_sheet_60 : decode cX7_sheet 60 = .ok (.iload_n 3, 1) := by decide +kernel
theorem dX7_sheet_61 : decode cX7_sheet 61 = .ok (.invokevirtual 272, 3) := by decide +kernel
theorem dX7_sheet_64 : decode cX7_sheet 64 = .ok (.iconst 1, 1) := by decide +kernel
theorem dX7_sheet_65 : decode cX7_sheet 65 = .ok (.ireturn, 1) := by decide +kernel
theorem dX7_cell_0 : decode cX7_cell 0 = .ok (.iload_n 1, 1) := by decide +kernel
theorem dX7_cell_1 : decode cX7_cell 1 = .ok (.invokestatic 269, 3) := by decide +kernel
theorem dX7_cell_4 : decode cX7_cell 4 = .ok (.ifCond .ne 6, 3) := by decide +kernel
theorem dX7_cell_7 : decode cX7_cell 7 = .ok (.bipush (-2), 2) := by decide +kernel
theorem dX7_cell_9 : decode cX7_cell 9 = .ok (.ireturn, 1) := by decide +kernel
theorem dX7_cell_10 : decode cX7_cell 10 = .ok (.aload_n 0, 1) := by decide +kernel
theorem dX7_cell_11 : decode cX7_cell 11 = .ok (.getfield 65, 3) := by decide +kernel
theorem dX7_cell_14 : decode cX7_cell 14 = .ok (.iload_n 1, 1) := by decide +kernel
theorem dX7_cell_15 : decode cX7_cell 15 = .ok (.aaload, 1) := by decide +kernel
theorem dX7_cell_16 : decode cX7_cell 16 = .ok (.astore 4, 2) := by decide +kernel
theorem dX7_cell_18 : decode cX7_cell 18 = .ok (.aload 4, 2) := by decide +kernel
theorem dX7_cell_20 : decode cX7_cell 20 = .ok (.getfield 275, 3) := by decide +kernel
theorem dX7_cell_23 : decode cX7_cell 23 = .ok (.iconst (-1), 1) := by decide +kernel
theorem dX7_cell_24 : decode cX7_cell 24 = .ok (.if_icmp .ne 6, 3) := by decide +kernel
theorem dX7_cell_27 : decode cX7_cell 27 = .ok (.bipush (-11), 2) := by decide +kernel
theorem dX7_cell_29 : decode cX7_cell 29 = .ok (.ireturn, 1) := by decide +kernel
theorem dX7_cell_30 : decode cX7_cell 30 = .ok (.aload 4, 2) := by decide +kernel
theorem dX7_cell_32 : decode cX7_cell 32 = .ok (.iload_n 2, 1) := by decide +kernel
theorem dX7_cell_33 : decode cX7_cell 33 = .ok (.invokevirtual 278, 3) := by decide +kernel
theorem dX7_cell_36 : decode cX7_cell 36 = .ok (.ifCond .ne 6, 3) := by decide +kernel
theorem dX7_cell_39 : decode cX7_cell 39 = .ok (.bipush (-12), 2) := by decide +kernel
theorem dX7_cell_41 : decode cX7_cell 41 = .ok (.ireturn, 1) := by decide +kernel
theorem dX7_cell_42 : decode cX7_cell 42 = .ok (.aload 4, 2) := by decide +kernel
theorem dX7_cell_44 : decode cX7_cell 44 = .ok (.iload_n 2, 1) := by decide +kernel
theorem dX7_cell_45 : decode cX7_cell 45 = .ok (.iload_n 3, 1) := by decide +kernel
theorem dX7_cell_46 : decode cX7_cell 46 = .ok (.invokevirtual 281, 3) := by decide +kernel
theorem dX7_cell_49 : decode cX7_cell 49 = .ok (.iconst 1, 1) := by decide +kernel
theorem dX7_cell_50 : decode cX7_cell 50 = .ok (.ireturn, 1) := by decide +kernel
theorem dX7_copy_0 : decode cX7_copy 0 = .ok (.iload_n 1, 1) := by decide +kernel
theorem dX7_copy_1 : decode cX7_copy 1 = .ok (.invokestatic 269, 3) := by decide +kernel
theorem dX7_copy_4 : decode cX7_copy 4 = .ok (.ifCond .eq 10, 3) := by decide +kernel
theorem dX7_copy_7 : decode cX7_copy 7 = .ok (.iload_n 3, 1) := by decide +kernel
theorem dX7_copy_8 : decode cX7_copy 8 = .ok (.invokestatic 269, 3) := by decide +kernel
theorem dX7_copy_11 : decode cX7_copy 11 = .ok (.ifCond .ne 6, 3) := by decide +kernel
theorem dX7_copy_14 : decode cX7_copy 14 = .ok (.bipush (-2), 2) := by decide +kernel
theorem dX7_copy_16 : decode cX7_copy 16 = .ok (.ireturn, 1) := by decide +kernel
theorem dX7_copy_17 : decode cX7_copy 17 = .ok (.aload_n 0, 1) := by decide +kernel
theorem dX7_copy_18 : decode cX7_copy 18 = .ok (.getfield 65, 3) := by decide +kernel
theorem dX7_copy_21 : decode cX7_copy 21 = .ok (.iload_n 1, 1) := by decide +kernel
theorem dX7_copy_22 : decode cX7_copy 22 = .ok (.aaload, 1) := by decide +kernel
theorem dX7_copy_23 : decode cX7_copy 23 = .ok (.astore 6, 2) := by decide +kernel
theorem dX7_copy_25 : decode cX7_copy 25 = .ok (.aload_n 0, 1) := by decide +kernel
theorem dX7_copy_26 : decode cX7_copy 26 = .ok (.getfield 65, 3) := by decide +kernel
theorem dX7_copy_29 : decode cX7_copy 29 = .ok (.iload_n 3, 1) := by decide +kernel
theorem dX7_copy_30 : decode cX7_copy 30 = .ok (.aaload, 1) := by decide +kernel
theorem dX7_copy_31 : decode cX7_copy 31 = .ok (.astore 7, 2) := by decide +kernel
theorem dX7_copy_33 : decode cX7_copy 33 = .ok (.aload 6, 2) := by decide +kernel
theorem dX7_copy_35 : decode cX7_copy 35 = .ok (.getfield 275, 3) := by decide +kernel
theorem dX7_copy_38 : decode cX7_copy 38 = .ok (.iconst (-1), 1) := by decide +kernel
theorem dX7_copy_39 : decode cX7_copy 39 = .ok (.if_icmp .eq 12, 3) := by decide +kernel
theorem dX7_copy_42 : decode cX7_copy 42 = .ok (.aload 7, 2) := by decide +kernel
theorem dX7_copy_44 : decode cX7_copy 44 = .ok (.getfield 275, 3) := by decide +kernel
theorem dX7_copy_47 : decode cX7_copy 47 = .ok (.iconst (-1), 1) := by decide +kernel
theorem dX7_copy_48 : decode cX7_copy 48 = .ok (.if_icmp .ne 6, 3) := by decide +kernel
theorem dX7_copy_51 : decode cX7_copy 51 = .ok (.bipush (-11), 2) := by decide +kernel
theorem dX7_copy_53 : decode cX7_copy 53 = .ok (.ireturn, 1) := by decide +kernel
theorem dX7_copy_54 : decode cX7_copy 54 = .ok (.aload 6, 2) := by decide +kernel
theorem dX7_copy_56 : decode cX7_copy 56 = .ok (.getfield 275, 3) := by decide +kernel
theorem dX7_copy_59 : decode cX7_copy 59 = .ok (.aload 7, 2) := by decide +kernel
theorem dX7_copy_61 : decode cX7_copy 61 = .ok (.getfield 275, 3) := by decide +kernel
theorem dX7_copy_64 : decode cX7_copy 64 = .ok (.if_icmp .eq 6, 3) := by decide +kernel
theorem dX7_copy_67 : decode cX7_copy 67 = .ok (.bipush (-13), 2) := by decide +kernel
theorem dX7_copy_69 : decode cX7_copy 69 = .ok (.ireturn, 1) := by decide +kernel
theorem dX7_copy_70 : decode cX7_copy 70 = .ok (.aload 6, 2) := by decide +kernel
theorem dX7_copy_72 : decode cX7_copy 72 = .ok (.iload_n 2, 1) := by decide +kernel
theorem dX7_copy_73 : decode cX7_copy 73 = .ok (.iload 5, 2) := by decide +kernel
theorem dX7_copy_75 : decode cX7_copy 75 = .ok (.invokevirtual 284, 3) := by decide +kernel
theorem dX7_copy_78 : decode cX7_copy 78 = .ok (.ifCond .eq 15, 3) := by decide +kernel
theorem dX7_copy_81 : decode cX7_copy 81 = .ok (.aload 7, 2) := by decide +kernel
theorem dX7_copy_83 : decode cX7_copy 83 = .ok (.iload 4, 2) := by decide +kernel
theorem dX7_copy_85 : decode cX7_copy 85 = .ok (.iload 5, 2) := by decide +kernel
theorem dX7_copy_87 : decode cX7_copy 87 = .ok (.invokevirtual 284, 3) := by decide +kernel
theorem dX7_copy_90 : decode cX7_copy 90 = .ok (.ifCond .ne 6, 3) := by decide +kernel
theorem dX7_copy_93 : decode cX7_copy 93 = .ok (.bipush (-12), 2) := by decide +kernel
theorem dX7_copy_95 : decode cX7_copy 95 = .ok (.ireturn, 1) := by decide +kernel
theorem dX7_copy_96 : decode cX7_copy 96 = .ok (.aload 6, 2) := by decide +kernel
theorem dX7_copy_98 : decode cX7_copy 98 = .ok (.getfield 219, 3) := by decide +kernel
theorem dX7_copy_101 : decode cX7_copy 101 = .ok (.iload_n 2, 1) := by decide +kernel
theorem dX7_copy_102 : decode cX7_copy 102 = .ok (.aload 7, 2) := by decide +kernel
theorem dX7_copy_104 : decode cX7_copy 104 = .ok (.getfield 219, 3) := by decide +kernel
theorem dX7_copy_107 : decode cX7_copy 107 = .ok (.iload 4, 2) := by decide +kernel
theorem dX7_copy_109 : decode cX7_copy 109 = .ok (.iload 5, 2) := by decide +kernel
theorem dX7_copy_111 : decode cX7_copy 111 = .ok (.invokestatic 288, 3) := by decide +kernel
theorem dX7_copy_114 : decode cX7_copy 114 = .ok (.iload 5, 2) := by decide +kernel
theorem dX7_copy_116 : decode cX7_copy 116 = .ok (.ireturn, 1) := by decide +kernel
theorem dX7_crossings_0 : decode cX7_crossings 0 = .ok (.iload_n 1, 1) := by decide +kernel
theorem dX7_crossings_1 : decode cX7_crossings 1 = .ok (.invokestatic 269, 3) := by decide +kernel
theorem dX7_crossings_4 : decode cX7_crossings 4 = .ok (.ifCond .eq 23, 3) := by decide +kernel
theorem dX7_crossings_7 : decode cX7_crossings 7 = .ok (.iload_n 2, 1) := by decide +kernel
theorem dX7_crossings_8 : decode cX7_crossings 8 = .ok (.iconst 0, 1) := by decide +kernel
theorem dX7_crossings_9 : decode cX7_crossings 9 = .ok (.iconst 2, 1) := by decide +kernel
theorem dX7_crossings_10 : decode cX7_crossings 10 = .ok (.invokestatic 100, 3) := by decide +kernel
theorem dX7_crossings_13 : decode cX7_crossings 13 = .ok (.ifCond .eq 14, 3) := by decide +kernel
theorem dX7_crossings_16 : decode cX7_crossings 16 = .ok (.iload 4, 2) := by decide +kernel
theorem dX7_crossings_18 : decode cX7_crossings 18 = .ok (.iconst 0, 1) := by decide +kernel
theorem dX7_crossings_19 : decode cX7_crossings 19 = .ok (.bipush 20, 2) := by decide +kernel
theorem dX7_crossings_21 : decode cX7_crossings 21 = .ok (.invokestatic 100, 3) := by decide +kernel
theorem dX7_crossings_24 : decode cX7_crossings 24 = .ok (.ifCond .ne 6, 3) := by decide +kernel
theorem dX7_crossings_27 : decode cX7_crossings 27 = .ok (.bipush (-2), 2) := by decide +kernel
theorem dX7_crossings_29 : decode cX7_crossings 29 = .ok (.ireturn, 1) := by decide +kernel
theorem dX7_crossings_30 : decode cX7_crossings 30 = .ok (.aload_n 0, 1) := by decide +kernel
theorem dX7_crossings_31 : decode cX7_crossings 31 = .ok (.getfield 65, 3) := by decide +kernel
theorem dX7_crossings_34 : decode cX7_crossings 34 = .ok (.iload_n 1, 1) := by decide +kernel
theorem dX7_crossings_35 : decode cX7_crossings 35 = .ok (.aaload, 1) := by decide +kernel
theorem dX7_crossings_36 : decode cX7_crossings 36 = .ok (.astore 5, 2) := by decide +kernel
theorem dX7_crossings_38 : decode cX7_crossings 38 = .ok (.aload 5, 2) := by decide +kernel
theorem dX7_crossings_40 : decode cX7_crossings 40 = .ok (.getfield 275, 3) := by decide +kernel
theorem dX7_crossings_43 : decode cX7_crossings 43 = .ok (.iconst (-1), 1) := by decide +kernel
theorem dX7_crossings_44 : decode cX7_crossings 44 = .ok (.if_icmp .eq 15, 3) := by decide +kernel
theorem dX7_crossings_47 : decode cX7_crossings 47 = .ok (.aload 5, 2) := by decide +kernel
theorem dX7_crossings_49 : decode cX7_crossings 49 = .ok (.getfield 275, 3) := by decide +kernel
theorem dX7_crossings_52 : decode cX7_crossings 52 = .ok (.iload_n 2, 1) := by decide +kernel
theorem dX7_crossings_53 : decode cX7_crossings 53 = .ok (.if_icmp .eq 6, 3) := by decide +kernel
theorem dX7_crossings_56 : decode cX7_crossings 56 = .ok (.bipush (-13), 2) := by decide +kernel
theorem dX7_crossings_58 : decode cX7_crossings 58 = .ok (.ireturn, 1) := by decide +kernel
theorem dX7_crossings_59 : decode cX7_crossings 59 = .ok (.aload 5, 2) := by decide +kernel
theorem dX7_crossings_61 : decode cX7_crossings 61 = .ok (.getfield 275, 3) := by decide +kernel
theorem dX7_crossings_64 : decode cX7_crossings 64 = .ok (.iconst (-1), 1) := by decide +kernel
theorem dX7_crossings_65 : decode cX7_crossings 65 = .ok (.if_icmp .ne 6, 3) := by decide +kernel
theorem dX7_crossings_68 : decode cX7_crossings 68 = .ok (.bipush (-11), 2) := by decide +kernel
theorem dX7_crossings_70 : decode cX7_crossings 70 = .ok (.ireturn, 1) := by decide +kernel
theorem dX7_crossings_71 : decode cX7_crossings 71 = .ok (.iconst 0, 1) := by decide +kernel
theorem dX7_crossings_72 : decode cX7_crossings 72 = .ok (.istore 6, 2) := by decide +kernel
theorem dX7_crossings_74 : decode cX7_crossings 74 = .ok (.iconst 0, 1) := by decide +kernel
theorem dX7_crossings_75 : decode cX7_crossings 75 = .ok (.istore 7, 2) := by decide +kernel
theorem dX7_crossings_77 : decode cX7_crossings 77 = .ok (.iload 7, 2) := by decide +kernel
theorem dX7_crossings_79 : decode cX7_crossings 79 = .ok (.iload 4, 2) := by decide +kernel
theorem dX7_crossings_81 : decode cX7_crossings 81 = .ok (.if_icmp .ge 70, 3) := by decide +kernel
theorem dX7_crossings_84 : decode cX7_crossings 84 = .ok (.iload_n 3, 1) := by decide +kernel
theorem dX7_crossings_85 : decode cX7_crossings 85 = .ok (.iconst 2, 1) := by decide +kernel
theorem dX7_crossings_86 : decode cX7_crossings 86 = .ok (.iload 7, 2) := by decide +kernel
theorem dX7_crossings_88 : decode cX7_crossings 88 = .ok (.imul, 1) := by decide +kernel
theorem dX7_crossings_89 : decode cX7_crossings 89 = .ok (.iadd, 1) := by decide +kernel
theorem dX7_crossings_90 : decode cX7_crossings 90 = .ok (.istore 8, 2) := by decide +kernel
theorem dX7_crossings_92 : decode cX7_crossings 92 = .ok (.aload 5, 2) := by decide +kernel
theorem dX7_crossings_94 : decode cX7_crossings 94 = .ok (.iload 8, 2) := by decide +kernel
theorem dX7_crossings_96 : decode cX7_crossings 96 = .ok (.invokevirtual 278, 3) := by decide +kernel
theorem dX7_crossings_99 : decode cX7_crossings 99 = .ok (.ifCond .eq 15, 3) := by decide +kernel
theorem dX7_crossings_102 : decode cX7_crossings 102 = .ok (.aload 5, 2) := by decide +kernel
theorem dX7_crossings_104 : decode cX7_crossings 104 = .ok (.iload 8, 2) := by decide +kernel
theorem dX7_crossings_106 : decode cX7_crossings 106 = .ok (.iconst 1, 1) := by decide +kernel
theorem dX7_crossings_107 : decode cX7_crossings 107 = .ok (.iadd, 1) := by decide +kernel
theorem dX7_crossings_108 : decode cX7_crossings 108 = .ok (.invokevirtual 278, 3) := by decide +kernel
theorem dX7_crossings_111 : decode cX7_crossings 111 = .ok (.ifCond .ne 6, 3) := by decide +kernel
theorem dX7_crossings_114 : decode cX7_crossings 114 = .ok (.bipush (-12), 2) := by decide +kernel
theorem dX7_crossings_116 : decode cX7_crossings 116 = .ok (.ireturn, 1) := by decide +kernel
theorem dX7_crossings_117 : decode cX7_crossings 117 = .ok (.aload_n 0, 1) := by decide +kernel
theorem dX7_crossings_118 : decode cX7_crossings 118 = .ok (.aload 5, 2) := by decide +kernel
theorem dX7_crossings_120 : decode cX7_crossings 120 = .ok (.getfield 219, 3) := by decide +kernel
theorem dX7_crossings_123 : decode cX7_crossings 123 = .ok (.iload 8, 2) := by decide +kernel
theorem dX7_crossings_125 : decode cX7_crossings 125 = .ok (.iaload, 1) := by decide +kernel
theorem dX7_crossings_126 : decode cX7_crossings 126 = .ok (.aload 5, 2) := by decide +kernel
theorem dX7_crossings_128 : decode cX7_crossings 128 = .ok (.getfield 219, 3) := by decide +kernel
theorem dX7_crossings_131 : decode cX7_crossings 131 = .ok (.iload 8, 2) := by decide +kernel
theorem dX7_crossings_133 : decode cX7_crossings 133 = .ok (.iconst 1, 1) := by decide +kernel
theorem dX7_crossings_134 : decode cX7_crossings 134 = .ok (.iadd, 1) := by decide +kernel
theorem dX7_crossings_135 : decode cX7_crossings 135 = .ok (.iaload, 1) := by decide +kernel
theorem dX7_crossings_136 : decode cX7_crossings 136 = .ok (.invokevirtual 294, 3) := by decide +kernel
theorem dX7_crossings_139 : decode cX7_crossings 139 = .ok (.ifCond .le 6, 3) := by decide +kernel
theorem dX7_crossings_142 : decode cX7_crossings 142 = .ok (.iinc 6 1, 3) := by decide +kernel
theorem dX7_crossings_145 : decode cX7_crossings 145 = .ok (.iinc 7 1, 3) := by decide +kernel
theorem dX7_crossings_148 : decode cX7_crossings 148 = .ok (.goto (-71), 3) := by decide +kernel
theorem dX7_crossings_151 : decode cX7_crossings 151 = .ok (.iload 6, 2) := by decide +kernel
theorem dX7_crossings_153 : decode cX7_crossings 153 = .ok (.ireturn, 1) := by decide +kernel
theorem dX7_taken_0 : decode cX7_taken 0 = .ok (.iload_n 2, 1) := by decide +kernel
theorem dX7_taken_1 : decode cX7_taken 1 = .ok (.iconst 0, 1) := by decide +kernel
theorem dX7_taken_2 : decode cX7_taken 2 = .ok (.iconst 5, 1) := by decide +kernel
theorem dX7_taken_3 : decode cX7_taken 3 = .ok (.invokestatic 100, 3) := by decide +kernel
theorem dX7_taken_6 : decode cX7_taken 6 = .ok (.ifCond .ne 6, 3) := by decide +kernel
theorem dX7_taken_9 : decode cX7_taken 9 = .ok (.bipush (-2), 2) := by decide +kernel
theorem dX7_taken_11 : decode cX7_taken 11 = .ok (.ireturn, 1) := by decide +kernel
theorem dX7_taken_12 : decode cX7_taken 12 = .ok (.aload_n 0, 1) := by decide +kernel
theorem dX7_taken_13 : decode cX7_taken 13 = .ok (.iload_n 1, 1) := by decide +kernel
theorem dX7_taken_14 : decode cX7_taken 14 = .ok (.invokevirtual 115, 3) := by decide +kernel
theorem dX7_taken_17 : decode cX7_taken 17 = .ok (.ifCond .ne 6, 3) := by decide +kernel
theorem dX7_taken_20 : decode cX7_taken 20 = .ok (.bipush (-11), 2) := by decide +kernel
theorem dX7_taken_22 : decode cX7_taken 22 = .ok (.ireturn, 1) := by decide +kernel
theorem dX7_taken_23 : decode cX7_taken 23 = .ok (.aload_n 0, 1) := by decide +kernel
theorem dX7_taken_24 : decode cX7_taken 24 = .ok (.getfield 10, 3) := by decide +kernel
theorem dX7_taken_27 : decode cX7_taken 27 = .ok (.getfield 132, 3) := by decide +kernel
theorem dX7_taken_30 : decode cX7_taken 30 = .ok (.iload_n 1, 1) := by decide +kernel
theorem dX7_taken_31 : decode cX7_taken 31 = .ok (.iaload, 1) := by decide +kernel
theorem dX7_taken_32 : decode cX7_taken 32 = .ok (.iload_n 2, 1) := by decide +kernel
theorem dX7_taken_33 : decode cX7_taken 33 = .ok (.invokestatic 297, 3) := by decide +kernel
theorem dX7_taken_36 : decode cX7_taken 36 = .ok (.ifCond .eq 15, 3) := by decide +kernel
theorem dX7_taken_39 : decode cX7_taken 39 = .ok (.aload_n 0, 1) := by decide +kernel
theorem dX7_taken_40 : decode cX7_taken 40 = .ok (.getfield 10, 3) := by decide +kernel
theorem dX7_taken_43 : decode cX7_taken 43 = .ok (.getfield 126, 3) := by decide +kernel
theorem dX7_taken_46 : decode cX7_taken 46 = .ok (.iload_n 1, 1) := by decide +kernel
theorem dX7_taken_47 : decode cX7_taken 47 = .ok (.iaload, 1) := by decide +kernel
theorem dX7_taken_48 : decode cX7_taken 48 = .ok (.goto 5, 3) := by decide +kernel
theorem dX7_taken_51 : decode cX7_taken 51 = .ok (.bipush (-13), 2) := by decide +kernel
theorem dX7_taken_53 : decode cX7_taken 53 = .ok (.ireturn, 1) := by decide +kernel
theorem dX7_isWithin_0 : decode cX7_isWithin 0 = .ok (.iload_n 0, 1) := by decide +kernel
theorem dX7_isWithin_1 : decode cX7_isWithin 1 = .ok (.iload_n 1, 1) := by decide +kernel
theorem dX7_isWithin_2 : decode cX7_isWithin 2 = .ok (.if_icmp .lt 12, 3) := by decide +kernel
theorem dX7_isWithin_5 : decode cX7_isWithin 5 = .ok (.iload_n 0, 1) := by decide +kernel
theorem dX7_isWithin_6 : decode cX7_isWithin 6 = .ok (.iload_n 2, 1) := by decide +kernel
theorem dX7_isWithin_7 : decode cX7_isWithin 7 = .ok (.if_icmp .gt 7, 3) := by decide +kernel
theorem dX7_isWithin_10 : decode cX7_isWithin 10 = .ok (.iconst 1, 1) := by decide +kernel
theorem dX7_isWithin_11 : decode cX7_isWithin 11 = .ok (.goto 4, 3) := by decide +kernel
theorem dX7_isWithin_14 : decode cX7_isWithin 14 = .ok (.iconst 0, 1) := by decide +kernel
theorem dX7_isWithin_15 : decode cX7_isWithin 15 = .ok (.ireturn, 1) := by decide +kernel
theorem dX7_isDog_0 : decode cX7_isDog 0 = .ok (.iload_n 1, 1) := by decide +kernel
theorem dX7_isDog_1 : decode cX7_isDog 1 = .ok (.iconst 0, 1) := by decide +kernel
theorem dX7_isDog_2 : decode cX7_isDog 2 = .ok (.aload_n 0, 1) := by decide +kernel
theorem dX7_isDog_3 : decode cX7_isDog 3 = .ok (.getfield 10, 3) := by decide +kernel
theorem dX7_isDog_6 : decode cX7_isDog 6 = .ok (.getfield 110, 3) := by decide +kernel
theorem dX7_isDog_9 : decode cX7_isDog 9 = .ok (.iconst 1, 1) := by decide +kernel
theorem dX7_isDog_10 : decode cX7_isDog 10 = .ok (.isub, 1) := by decide +kernel
theorem dX7_isDog_11 : decode cX7_isDog 11 = .ok (.invokestatic 100, 3) := by decide +kernel
theorem dX7_isDog_14 : decode cX7_isDog 14 = .ok (.ireturn, 1) := by decide +kernel
theorem dX7_isSheet_0 : decode cX7_isSheet 0 = .ok (.iload_n 0, 1) := by decide +kernel
theorem dX7_isSheet_1 : decode cX7_isSheet 1 = .ok (.iconst 0, 1) := by decide +kernel
theorem dX7_isSheet_2 : decode cX7_isSheet 2 = .ok (.iconst 3, 1) := by decide +kernel
theorem dX7_isSheet_3 : decode cX7_isSheet 3 = .ok (.invokestatic 100, 3) := by decide +kernel
theorem dX7_isSheet_6 : decode cX7_isSheet 6 = .ok (.ireturn, 1) := by decide +kernel
theorem dX7_bit_0 : decode cX7_bit 0 = .ok (.iconst 1, 1) := by decide +kernel
theorem dX7_bit_1 : decode cX7_bit 1 = .ok (.iload_n 0, 1) := by decide +kernel
theorem dX7_bit_2 : decode cX7_bit 2 = .ok (.ishl, 1) := by decide +kernel
theorem dX7_bit_3 : decode cX7_bit 3 = .ok (.ireturn, 1) := by decide +kernel
theorem dX7_allDogs_0 : decode cX7_allDogs 0 = .ok (.aload_n 0, 1) := by decide +kernel
theorem dX7_allDogs_1 : decode cX7_allDogs 1 = .ok (.getfield 10, 3) := by decide +kernel
theorem dX7_allDogs_4 : decode cX7_allDogs 4 = .ok (.getfield 110, 3) := by decide +kernel
theorem dX7_allDogs_7 : decode cX7_allDogs 7 = .ok (.invokestatic 178, 3) := by decide +kernel
theorem dX7_allDogs_10 : decode cX7_allDogs 10 = .ok (.iconst 1, 1) := by decide +kernel
theorem dX7_allDogs_11 : decode cX7_allDogs 11 = .ok (.isub, 1) := by decide +kernel
theorem dX7_allDogs_12 : decode cX7_allDogs 12 = .ok (.ireturn, 1) := by decide +kernel
theorem dX7_isUnder_0 : decode cX7_isUnder 0 = .ok (.iload_n 0, 1) := by decide +kernel
theorem dX7_isUnder_1 : decode cX7_isUnder 1 = .ok (.istore_n 2, 1) := by decide +kernel
theorem dX7_isUnder_2 : decode cX7_isUnder 2 = .ok (.iconst 0, 1) := by decide +kernel
theorem dX7_isUnder_3 : decode cX7_isUnder 3 = .ok (.istore_n 3, 1) := by decide +kernel
theorem dX7_isUnder_4 : decode cX7_isUnder 4 = .ok (.iload_n 3, 1) := by decide +kernel
theorem dX7_isUnder_5 : decode cX7_isUnder 5 = .ok (.getstatic 300, 3) := by decide +kernel
theorem dX7_isUnder_8 : decode cX7_isUnder 8 = .ok (.arraylength, 1) := by decide +kernel
theorem dX7_isUnder_9 : decode cX7_isUnder 9 = .ok (.if_icmp .ge 31, 3) := by decide +kernel
theorem dX7_isUnder_12 : decode cX7_isUnder 12 = .ok (.iload_n 2, 1) := by decide +kernel
theorem dX7_isUnder_13 : decode cX7_isUnder 13 = .ok (.iconst 0, 1) := by decide +kernel
theorem dX7_isUnder_14 : decode cX7_isUnder 14 = .ok (.iconst 5, 1) := by decide +kernel
theorem dX7_isUnder_15 : decode cX7_isUnder 15 = .ok (.invokestatic 100, 3) := by decide +kernel
theorem dX7_isUnder_18 : decode cX7_isUnder 18 = .ok (.ifCond .eq 22, 3) := by decide +kernel
theorem dX7_isUnder_21 : decode cX7_isUnder 21 = .ok (.iload_n 2, 1) := by decide +kernel
theorem dX7_isUnder_22 : decode cX7_isUnder 22 = .ok (.iload_n 1, 1) := by decide +kernel
theorem dX7_isUnder_23 : decode cX7_isUnder 23 = .ok (.if_icmp .ne 5, 3) := by decide +kernel
theorem dX7_isUnder_26 : decode cX7_isUnder 26 = .ok (.iconst 1, 1) := by decide +kernel
theorem dX7_isUnder_27 : decode cX7_isUnder 27 = .ok (.ireturn, 1) := by decide +kernel
theorem dX7_isUnder_28 : decode cX7_isUnder 28 = .ok (.getstatic 300, 3) := by decide +kernel
theorem dX7_isUnder_31 : decode cX7_isUnder 31 = .ok (.iload_n 2, 1) := by decide +kernel
theorem dX7_isUnder_32 : decode cX7_isUnder 32 = .ok (.iaload, 1) := by decide +kernel
theorem dX7_isUnder_33 : decode cX7_isUnder 33 = .ok (.istore_n 2, 1) := by decide +kernel
theorem dX7_isUnder_34 : decode cX7_isUnder 34 = .ok (.iinc 3 1, 3) := by decide +kernel
theorem dX7_isUnder_37 : decode cX7_isUnder 37 = .ok (.goto (-33), 3) := by decide +kernel
theorem dX7_isUnder_40 : decode cX7_isUnder 40 = .ok (.iconst 0, 1) := by decide +kernel
theorem dX7_isUnder_41 : decode cX7_isUnder 41 = .ok (.ireturn, 1) := by decide +kernel
theorem dX7_replace_0 : decode cX7_replace 0 = .ok (.aload_n 0, 1) := by decide +kernel
theorem dX7_replace_1 : decode cX7_replace 1 = .ok (.iload_n 1, 1) := by decide +kernel
theorem dX7_replace_2 : decode cX7_replace 2 = .ok (.iaload, 1) := by decide +kernel
theorem dX7_replace_3 : decode cX7_replace 3 = .ok (.istore_n 3, 1) := by decide +kernel
theorem dX7_replace_4 : decode cX7_replace 4 = .ok (.aload_n 0, 1) := by decide +kernel
theorem dX7_replace_5 : decode cX7_replace 5 = .ok (.iload_n 1, 1) := by decide +kernel
theorem dX7_replace_6 : decode cX7_replace 6 = .ok (.iload_n 2, 1) := by decide +kernel
theorem dX7_replace_7 : decode cX7_replace 7 = .ok (.iastore, 1) := by decide +kernel
theorem dX7_replace_8 : decode cX7_replace 8 = .ok (.iload_n 3, 1) := by decide +kernel
theorem dX7_replace_9 : decode cX7_replace 9 = .ok (.ireturn, 1) := by decide +kernel
theorem dX7_greatestDivisor_0 : decode cX7_greatestDivisor 0 = .ok (.iload_n 0, 1) := by decide +kernel
theorem dX7_greatestDivisor_1 : decode cX7_greatestDivisor 1 = .ok (.istore_n 2, 1) := by decide +kernel
theorem dX7_greatestDivisor_2 : decode cX7_greatestDivisor 2 = .ok (.iload_n 1, 1) := by decide +kernel
theorem dX7_greatestDivisor_3 : decode cX7_greatestDivisor 3 = .ok (.istore_n 3, 1) := by decide +kernel
theorem dX7_greatestDivisor_4 : decode cX7_greatestDivisor 4 = .ok (.iconst 0, 1) := by decide +kernel
theorem dX7_greatestDivisor_5 : decode cX7_greatestDivisor 5 = .ok (.istore 4, 2) := by decide +kernel
theorem dX7_greatestDivisor_7 : decode cX7_greatestDivisor 7 = .ok (.iload 4, 2) := by decide +kernel
theorem dX7_greatestDivisor_9 : decode cX7_greatestDivisor 9 = .ok (.bipush 64, 2) := by decide +kernel
theorem dX7_greatestDivisor_11 : decode cX7_greatestDivisor 11 = .ok (.if_icmp .ge 23, 3) := by decide +kernel
theorem dX7_greatestDivisor_14 : decode cX7_greatestDivisor 14 = .ok (.iload_n 3, 1) := by decide +kernel
theorem dX7_greatestDivisor_15 : decode cX7_greatestDivisor 15 = .ok (.ifCond .eq 19, 3) := by decide +kernel
theorem dX7_greatestDivisor_18 : decode cX7_greatestDivisor 18 = .ok (.iload_n 2, 1) := by decide +kernel
theorem dX7_greatestDivisor_19 : decode cX7_greatestDivisor 19 = .ok (.iload_n 3, 1) := by decide +kernel
theorem dX7_greatestDivisor_20 : decode cX7_greatestDivisor 20 = .ok (.irem, 1) := by decide +kernel
theorem dX7_greatestDivisor_21 : decode cX7_greatestDivisor 21 = .ok (.istore 5, 2) := by decide +kernel
theorem dX7_greatestDivisor_23 : decode cX7_greatestDivisor 23 = .ok (.iload_n 3, 1) := by decide +kernel
theorem dX7_greatestDivisor_24 : decode cX7_greatestDivisor 24 = .ok (.istore_n 2, 1) := by decide +kernel
theorem dX7_greatestDivisor_25 : decode cX7_greatestDivisor 25 = .ok (.iload 5, 2) := by decide +kernel
theorem dX7_greatestDivisor_27 : decode cX7_greatestDivisor 27 = .ok (.istore_n 3, 1) := by decide +kernel
theorem dX7_greatestDivisor_28 : decode cX7_greatestDivisor 28 = .ok (.iinc 4 1, 3) := by decide +kernel
theorem dX7_greatestDivisor_31 : decode cX7_greatestDivisor 31 = .ok (.goto (-24), 3) := by decide +kernel
theorem dX7_greatestDivisor_34 : decode cX7_greatestDivisor 34 = .ok (.iload_n 2, 1) := by decide +kernel
theorem dX7_greatestDivisor_35 : decode cX7_greatestDivisor 35 = .ok (.ifCond .ne 7, 3) := by decide +kernel
theorem dX7_greatestDivisor_38 : decode cX7_greatestDivisor 38 = .ok (.iconst 1, 1) := by decide +kernel
theorem dX7_greatestDivisor_39 : decode cX7_greatestDivisor 39 = .ok (.goto 4, 3) := by decide +kernel
theorem dX7_greatestDivisor_42 : decode cX7_greatestDivisor 42 = .ok (.iload_n 2, 1) := by decide +kernel
theorem dX7_greatestDivisor_43 : decode cX7_greatestDivisor 43 = .ok (.ireturn, 1) := by decide +kernel
theorem dX7_ruled_0 : decode cX7_ruled 0 = .ok (.aload_n 0, 1) := by decide +kernel
theorem dX7_ruled_1 : decode cX7_ruled 1 = .ok (.getfield 59, 3) := by decide +kernel
theorem dX7_ruled_4 : decode cX7_ruled 4 = .ok (.iconst 0, 1) := by decide +kernel
theorem dX7_ruled_5 : decode cX7_ruled 5 = .ok (.iload_n 2, 1) := by decide +kernel
theorem dX7_ruled_6 : decode cX7_ruled 6 = .ok (.iload_n 3, 1) := by decide +kernel
theorem dX7_ruled_7 : decode cX7_ruled 7 = .ok (.invokestatic 184, 3) := by decide +kernel
theorem dX7_ruled_10 : decode cX7_ruled 10 = .ok (.iastore, 1) := by decide +kernel
theorem dX7_ruled_11 : decode cX7_ruled 11 = .ok (.aload_n 0, 1) := by decide +kernel
theorem dX7_ruled_12 : decode cX7_ruled 12 = .ok (.getfield 59, 3) := by decide +kernel
theorem dX7_ruled_15 : decode cX7_ruled 15 = .ok (.iconst 1, 1) := by decide +kernel
theorem dX7_ruled_16 : decode cX7_ruled 16 = .ok (.iload_n 2, 1) := by decide +kernel
theorem dX7_ruled_17 : decode cX7_ruled 17 = .ok (.iload_n 3, 1) := by decide +kernel
theorem dX7_ruled_18 : decode cX7_ruled 18 = .ok (.invokestatic 303, 3) := by decide +kernel
theorem dX7_ruled_21 : decode cX7_ruled 21 = .ok (.iastore, 1) := by decide +kernel
theorem dX7_ruled_22 : decode cX7_ruled 22 = .ok (.aload_n 0, 1) := by decide +kernel
theorem dX7_ruled_23 : decode cX7_ruled 23 = .ok (.getfield 59, 3) := by decide +kernel
theorem dX7_ruled_26 : decode cX7_ruled 26 = .ok (.iconst 2, 1) := by decide +kernel
theorem dX7_ruled_27 : decode cX7_ruled 27 = .ok (.aload_n 0, 1) := by decide +kernel
theorem dX7_ruled_28 : decode cX7_ruled 28 = .ok (.getfield 10, 3) := by decide +kernel
theorem dX7_ruled_31 : decode cX7_ruled 31 = .ok (.getfield 119, 3) := by decide +kernel
theorem dX7_ruled_34 : decode cX7_ruled 34 = .ok (.iload_n 2, 1) := by decide +kernel
theorem dX7_ruled_35 : decode cX7_ruled 35 = .ok (.iaload, 1) := by decide +kernel
theorem dX7_ruled_36 : decode cX7_ruled 36 = .ok (.aload_n 0, 1) := by decide +kernel
theorem dX7_ruled_37 : decode cX7_ruled 37 = .ok (.getfield 10, 3) := by decide +kernel
theorem dX7_ruled_40 : decode cX7_ruled 40 = .ok (.getfield 119, 3) := by decide +kernel
theorem dX7_ruled_43 : decode cX7_ruled 43 = .ok (.iload_n 3, 1) := by decide +kernel
theorem dX7_ruled_44 : decode cX7_ruled 44 = .ok (.iaload, 1) := by decide +kernel
theorem dX7_ruled_45 : decode cX7_ruled 45 = .ok (.isub, 1) := by decide +kernel
theorem dX7_ruled_46 : decode cX7_ruled 46 = .ok (.invokestatic 306, 3) := by decide +kernel
theorem dX7_ruled_49 : decode cX7_ruled 49 = .ok (.iastore, 1) := by decide +kernel
theorem dX7_ruled_50 : decode cX7_ruled 50 = .ok (.aload_n 0, 1) := by decide +kernel
theorem dX7_ruled_51 : decode cX7_ruled 51 = .ok (.getfield 59, 3) := by decide +kernel
theorem dX7_ruled_54 : decode cX7_ruled 54 = .ok (.iconst 3, 1) := by decide +kernel
theorem dX7_ruled_55 : decode cX7_ruled 55 = .ok (.iload 4, 2) := by decide +kernel
theorem dX7_ruled_57 : decode cX7_ruled 57 = .ok (.iastore, 1) := by decide +kernel
theorem dX7_ruled_58 : decode cX7_ruled 58 = .ok (.aload_n 0, 1) := by decide +kernel
theorem dX7_ruled_59 : decode cX7_ruled 59 = .ok (.getfield 59, 3) := by decide +kernel
theorem dX7_ruled_62 : decode cX7_ruled 62 = .ok (.iconst 4, 1) := by decide +kernel
theorem dX7_ruled_63 : decode cX7_ruled 63 = .ok (.aload_n 0, 1) := by decide +kernel
theorem dX7_ruled_64 : decode cX7_ruled 64 = .ok (.getfield 10, 3) := by decide +kernel
theorem dX7_ruled_67 : decode cX7_ruled 67 = .ok (.getfield 110, 3) := by decide +kernel
theorem dX7_ruled_70 : decode cX7_ruled 70 = .ok (.iastore, 1) := by decide +kernel
theorem dX7_ruled_71 : decode cX7_ruled 71 = .ok (.aload_n 0, 1) := by decide +kernel
theorem dX7_ruled_72 : decode cX7_ruled 72 = .ok (.getfield 59, 3) := by decide +kernel
theorem dX7_ruled_75 : decode cX7_ruled 75 = .ok (.iconst 5, 1) := by decide +kernel
theorem dX7_ruled_76 : decode cX7_ruled 76 = .ok (.iload 5, 2) := by decide +kernel
theorem dX7_ruled_78 : decode cX7_ruled 78 = .ok (.iastore, 1) := by decide +kernel
theorem dX7_ruled_79 : decode cX7_ruled 79 = .ok (.aload_n 0, 1) := by decide +kernel
theorem dX7_ruled_80 : decode cX7_ruled 80 = .ok (.getfield 49, 3) := by decide +kernel
theorem dX7_ruled_83 : decode cX7_ruled 83 = .ok (.aload_n 0, 1) := by decide +kernel
theorem dX7_ruled_84 : decode cX7_ruled 84 = .ok (.getfield 10, 3) := by decide +kernel
theorem dX7_ruled_87 : decode cX7_ruled 87 = .ok (.getfield 149, 3) := by decide +kernel
theorem dX7_ruled_90 : decode cX7_ruled 90 = .ok (.aaload, 1) := by decide +kernel
theorem dX7_ruled_91 : decode cX7_ruled 91 = .ok (.iload_n 1, 1) := by decide +kernel
theorem dX7_ruled_92 : decode cX7_ruled 92 = .ok (.aload_n 0, 1) := by decide +kernel
theorem dX7_ruled_93 : decode cX7_ruled 93 = .ok (.getfield 59, 3) := by decide +kernel
theorem dX7_ruled_96 : decode cX7_ruled 96 = .ok (.invokevirtual 309, 3) := by decide +kernel
theorem dX7_ruled_99 : decode cX7_ruled 99 = .ok (.istore 6, 2) := by decide +kernel
theorem dX7_ruled_101 : decode cX7_ruled 101 = .ok (.getstatic 313, 3) := by decide +kernel
theorem dX7_ruled_104 : decode cX7_ruled 104 = .ok (.iload_n 1, 1) := by decide +kernel
theorem dX7_ruled_105 : decode cX7_ruled 105 = .ok (.iaload, 1) := by decide +kernel
theorem dX7_ruled_106 : decode cX7_ruled 106 = .ok (.getstatic 316, 3) := by decide +kernel
theorem dX7_ruled_109 : decode cX7_ruled 109 = .ok (.iload_n 1, 1) := by decide +kernel
theorem dX7_ruled_110 : decode cX7_ruled 110 = .ok (.iaload, 1) := by decide +kernel
theorem dX7_ruled_111 : decode cX7_ruled 111 = .ok (.iload 6, 2) := by decide +kernel
theorem dX7_ruled_113 : decode cX7_ruled 113 = .ok (.invokestatic 184, 3) := by decide +kernel
theorem dX7_ruled_116 : decode cX7_ruled 116 = .ok (.invokestatic 303, 3) := by decide +kernel
theorem dX7_ruled_119 : decode cX7_ruled 119 = .ok (.ireturn, 1) := by decide +kernel
theorem dX7_ruledInHand_0 : decode cX7_ruledInHand 0 = .ok (.aload_n 0, 1) := by decide +kernel
theorem dX7_ruledInHand_1 : decode cX7_ruledInHand 1 = .ok (.getfield 10, 3) := by decide +kernel
theorem dX7_ruledInHand_4 : decode cX7_ruledInHand 4 = .ok (.iload_n 2, 1) := by decide +kernel
theorem dX7_ruledInHand_5 : decode cX7_ruledInHand 5 = .ok (.invokevirtual 135, 3) := by decide +kernel
theorem dX7_ruledInHand_8 : decode cX7_ruledInHand 8 = .ok (.aload_n 0, 1) := by decide +kernel
theorem dX7_ruledInHand_9 : decode cX7_ruledInHand 9 = .ok (.getfield 10, 3) := by decide +kernel
theorem dX7_ruledInHand_12 : decode cX7_ruledInHand 12 = .ok (.iload_n 3, 1) := by decide +kernel
theorem dX7_ruledInHand_13 : decode cX7_ruledInHand 13 = .ok (.invokevirtual 135, 3) := by decide +kernel
theorem dX7_ruledInHand_16 : decode cX7_ruledInHand 16 = .ok (.isub, 1) := by decide +kernel
theorem dX7_ruledInHand_17 : decode cX7_ruledInHand 17 = .ok (.invokestatic 306, 3) := by decide +kernel
theorem dX7_ruledInHand_20 : decode cX7_ruledInHand 20 = .ok (.istore 4, 2) := by decide +kernel
theorem dX7_ruledInHand_22 : decode cX7_ruledInHand 22 = .ok (.aload_n 0, 1) := by decide +kernel
theorem dX7_ruledInHand_23 : decode cX7_ruledInHand 23 = .ok (.iload_n 1, 1) := by decide +kernel
theorem dX7_ruledInHand_24 : decode cX7_ruledInHand 24 = .ok (.iload_n 2, 1) := by decide +kernel
theorem dX7_ruledInHand_25 : decode cX7_ruledInHand 25 = .ok (.iload_n 3, 1) := by decide +kernel
theorem dX7_ruledInHand_26 : decode cX7_ruledInHand 26 = .ok (.iload 4, 2) := by decide +kernel
theorem dX7_ruledInHand_28 : decode cX7_ruledInHand 28 = .ok (.aload_n 0, 1) := by decide +kernel
theorem dX7_ruledInHand_29 : decode cX7_ruledInHand 29 = .ok (.getfield 10, 3) := by decide +kernel
theorem dX7_ruledInHand_32 : decode cX7_ruledInHand 32 = .ok (.iload_n 2, 1) := by decide +kernel
theorem dX7_ruledInHand_33 : decode cX7_ruledInHand 33 = .ok (.iload_n 3, 1) := by decide +kernel
theorem dX7_ruledInHand_34 : decode cX7_ruledInHand 34 = .ok (.invokestatic 184, 3) := by decide +kernel
theorem dX7_ruledInHand_37 : decode cX7_ruledInHand 37 = .ok (.invokevirtual 135, 3) := by decide +kernel
theorem dX7_ruledInHand_40 : decode cX7_ruledInHand 40 = .ok (.invokevirtual 241, 3) := by decide +kernel
theorem dX7_ruledInHand_43 : decode cX7_ruledInHand 43 = .ok (.ireturn, 1) := by decide +kernel
theorem dX7_oddsInHand_0 : decode cX7_oddsInHand 0 = .ok (.iconst 0, 1) := by decide +kernel
theorem dX7_oddsInHand_1 : decode cX7_oddsInHand 1 = .ok (.istore_n 1, 1) := by decide +kernel
theorem dX7_oddsInHand_2 : decode cX7_oddsInHand 2 = .ok (.iconst 0, 1) := by decide +kernel
theorem dX7_oddsInHand_3 : decode cX7_oddsInHand 3 = .ok (.istore_n 2, 1) := by decide +kernel
theorem dX7_oddsInHand_4 : decode cX7_oddsInHand 4 = .ok (.iload_n 2, 1) := by decide +kernel
theorem dX7_oddsInHand_5 : decode cX7_oddsInHand 5 = .ok (.iconst 1, 1) := by decide +kernel
theorem dX7_oddsInHand_6 : decode cX7_oddsInHand 6 = .ok (.iadd, 1) := by decide +kernel
theorem dX7_oddsInHand_7 : decode cX7_oddsInHand 7 = .ok (.aload_n 0, 1) := by decide +kernel
theorem dX7_oddsInHand_8 : decode cX7_oddsInHand 8 = .ok (.getfield 10, 3) := by decide +kernel
theorem dX7_oddsInHand_11 : decode cX7_oddsInHand 11 = .ok (.getfield 110, 3) := by decide +kernel
theorem dX7_oddsInHand_14 : decode cX7_oddsInHand 14 = .ok (.if_icmp .ge 37, 3) := by decide +kernel
theorem dX7_oddsInHand_17 : decode cX7_oddsInHand 17 = .ok (.iload_n 1, 1) := by decide +kernel
theorem dX7_oddsInHand_18 : decode cX7_oddsInHand 18 = .ok (.aload_n 0, 1) := by decide +kernel
theorem dX7_oddsInHand_19 : decode cX7_oddsInHand 19 = .ok (.iconst 0, 1) := by decide +kernel
theorem dX7_oddsInHand_20 : decode cX7_oddsInHand 20 = .ok (.aload_n 0, 1) := by decide +kernel
theorem dX7_oddsInHand_21 : decode cX7_oddsInHand 21 = .ok (.getfield 10, 3) := by decide +kernel
theorem dX7_oddsInHand_24 : decode cX7_oddsInHand 24 = .ok (.getfield 152, 3) := by decide +kernel
theorem dX7_oddsInHand_27 : decode cX7_oddsInHand 27 = .ok (.iload_n 2, 1) := by decide +kernel
theorem dX7_oddsInHand_28 : decode cX7_oddsInHand 28 = .ok (.iaload, 1) := by decide +kernel
theorem dX7_oddsInHand_29 : decode cX7_oddsInHand 29 = .ok (.aload_n 0, 1) := by decide +kernel
theorem dX7_oddsInHand_30 : decode cX7_oddsInHand 30 = .ok (.getfield 10, 3) := by decide +kernel
theorem dX7_oddsInHand_33 : decode cX7_oddsInHand 33 = .ok (.getfield 152, 3) := by decide +kernel
theorem dX7_oddsInHand_36 : decode cX7_oddsInHand 36 = .ok (.iload_n 2, 1) := by decide +kernel
theorem dX7_oddsInHand_37 : decode cX7_oddsInHand 37 = .ok (.iconst 1, 1) := by decide +kernel
theorem dX7_oddsInHand_38 : decode cX7_oddsInHand 38 = .ok (.iadd, 1) := by decide +kernel
theorem dX7_oddsInHand_39 : decode cX7_oddsInHand 39 = .ok (.iaload, 1) := by decide +kernel
theorem dX7_oddsInHand_40 : decode cX7_oddsInHand 40 = .ok (.invokevirtual 144, 3) := by decide +kernel
theorem dX7_oddsInHand_43 : decode cX7_oddsInHand 43 = .ok (.iadd, 1) := by decide +kernel
theorem dX7_oddsInHand_44 : decode cX7_oddsInHand 44 = .ok (.istore_n 1, 1) := by decide +kernel
theorem dX7_oddsInHand_45 : decode cX7_oddsInHand 45 = .ok (.iinc 2 1, 3) := by decide +kernel
theorem dX7_oddsInHand_48 : decode cX7_oddsInHand 48 = .ok (.goto (-44), 3) := by decide +kernel
theorem dX7_oddsInHand_51 : decode cX7_oddsInHand 51 = .ok (.iload_n 1, 1) := by decide +kernel
theorem dX7_oddsInHand_52 : decode cX7_oddsInHand 52 = .ok (.ireturn, 1) := by decide +kernel
theorem dX7_findWorths_0 : decode cX7_findWorths 0 = .ok (.iconst 0, 1) := by decide +kernel
theorem dX7_findWorths_1 : decode cX7_findWorths 1 = .ok (.istore_n 1, 1) := by decide +kernel
theorem dX7_findWorths_2 : decode cX7_findWorths 2 = .ok (.iload_n 1, 1) := by decide +kernel
theorem dX7_findWorths_3 : decode cX7_findWorths 3 = .ok (.aload_n 0, 1) := by decide +kernel
theorem dX7_findWorths_4 : decode cX7_findWorths 4 = .ok (.getfield 10, 3) := by decide +kernel
theorem dX7_findWorths_7 : decode cX7_findWorths 7 = .ok (.getfield 110, 3) := by decide +kernel
theorem dX7_findWorths_10 : decode cX7_findWorths 10 = .ok (.if_icmp .ge 48, 3) := by decide +kernel
theorem dX7_findWorths_13 : decode cX7_findWorths 13 = .ok (.iload_n 1, 1) := by decide +kernel
theorem dX7_findWorths_14 : decode cX7_findWorths 14 = .ok (.iconst 1, 1) := by decide +kernel
theorem dX7_findWorths_15 : decode cX7_findWorths 15 = .ok (.iadd, 1) := by decide +kernel
theorem dX7_findWorths_16 : decode cX7_findWorths 16 = .ok (.istore_n 2, 1) := by decide +kernel
theorem dX7_findWorths_17 : decode cX7_findWorths 17 = .ok (.iload_n 2, 1) := by decide +kernel
theorem dX7_findWorths_18 : decode cX7_findWorths 18 = .ok (.aload_n 0, 1) := by decide +kernel
theorem dX7_findWorths_19 : decode cX7_findWorths 19 = .ok (.getfield 10, 3) := by decide +kernel
theorem dX7_findWorths_22 : decode cX7_findWorths 22 = .ok (.getfield 110, 3) := by decide +kernel
theorem dX7_findWorths_25 : decode cX7_findWorths 25 = .ok (.if_icmp .ge 27, 3) := by decide +kernel
theorem dX7_findWorths_28 : decode cX7_findWorths 28 = .ok (.aload_n 0, 1) := by decide +kernel
theorem dX7_findWorths_29 : decode cX7_findWorths 29 = .ok (.getfield 75, 3) := by decide +kernel
theorem dX7_findWorths_32 : decode cX7_findWorths 32 = .ok (.iload_n 1, 1) := by decide +kernel
theorem dX7_findWorths_33 : decode cX7_findWorths 33 = .ok (.bipush 6, 2) := by decide +kernel
theorem dX7_findWorths_35 : decode cX7_findWorths 35 = .ok (.imul, 1) := by decide +kernel
theorem dX7_findWorths_36 : decode cX7_findWorths 36 = .ok (.iload_n 2, 1) := by decide +kernel
theorem dX7_findWorths_37 : decode cX7_findWorths 37 = .ok (.iadd, 1) := by decide +kernel
theorem dX7_findWorths_38 : decode cX7_findWorths 38 = .ok (.aload_n 0, 1) := by decide +kernel
theorem dX7_findWorths_39 : decode cX7_findWorths 39 = .ok (.iconst 1, 1) := by decide +kernel
theorem dX7_findWorths_40 : decode cX7_findWorths 40 = .ok (.iload_n 1, 1) := by decide +kernel
theorem dX7_findWorths_41 : decode cX7_findWorths 41 = .ok (.iload_n 2, 1) := by decide +kernel
theorem dX7_findWorths_42 : decode cX7_findWorths 42 = .ok (.invokevirtual 144, 3) := by decide +kernel
theorem dX7_findWorths_45 : decode cX7_findWorths 45 = .ok (.iastore, 1) := by decide +kernel
theorem dX7_findWorths_46 : decode cX7_findWorths 46 = .ok (.iinc 2 1, 3) := by decide +kernel
theorem dX7_findWorths_49 : decode cX7_findWorths 49 = .ok (.goto (-32), 3) := by decide +kernel
theorem dX7_findWorths_52 : decode cX7_findWorths 52 = .ok (.iinc 1 1, 3) := by decide +kernel
theorem dX7_findWorths_55 : decode cX7_findWorths 55 = .ok (.goto (-53), 3) := by decide +kernel
theorem dX7_findWorths_58 : decode cX7_findWorths 58 = .ok (.return_, 1) := by decide +kernel
theorem dX7_worthOf_0 : decode cX7_worthOf 0 = .ok (.iconst 0, 1) := by decide +kernel
theorem dX7_worthOf_1 : decode cX7_worthOf 1 = .ok (.istore_n 2, 1) := by decide +kernel
theorem dX7_worthOf_2 : decode cX7_worthOf 2 = .ok (.iconst 0, 1) := by decide +kernel
theorem dX7_worthOf_3 : decode cX7_worthOf 3 = .ok (.istore_n 3, 1) := by decide +kernel
theorem dX7_worthOf_4 : decode cX7_worthOf 4 = .ok (.iload_n 3, 1) := by decide +kernel
theorem dX7_worthOf_5 : decode cX7_worthOf 5 = .ok (.aload_n 0, 1) := by decide +kernel
theorem dX7_worthOf_6 : decode cX7_worthOf 6 = .ok (.getfield 10, 3) := by decide +kernel
theorem dX7_worthOf_9 : decode cX7_worthOf 9 = .ok (.getfield 110, 3) := by decide +kernel
theorem dX7_worthOf_12 : decode cX7_worthOf 12 = .ok (.if_icmp .ge 83, 3) := by decide +kernel
theorem dX7_worthOf_15 : decode cX7_worthOf 15 = .ok (.iload_n 1, 1) := by decide +kernel
theorem dX7_worthOf_16 : decode cX7_worthOf 16 = .ok (.iload_n 3, 1) := by decide +kernel
theorem dX7_worthOf_17 : decode cX7_worthOf 17 = .ok (.invokestatic 178, 3) := by decide +kernel
theorem dX7_worthOf_20 : decode cX7_worthOf 20 = .ok (.iand, 1) := by decide +kernel
theorem dX7_worthOf_21 : decode cX7_worthOf 21 = .ok (.ifCond .ne 6, 3) := by decide +kernel
theorem dX7_worthOf_24 : decode cX7_worthOf 24 = .ok (.goto 65, 3) := by decide +kernel
theorem dX7_worthOf_27 : decode cX7_worthOf 27 = .ok (.iload_n 2, 1) := by decide +kernel
theorem dX7_worthOf_28 : decode cX7_worthOf 28 = .ok (.iconst 3, 1) := by decide +kernel
theorem dX7_worthOf_29 : decode cX7_worthOf 29 = .ok (.aload_n 0, 1) := by decide +kernel
theorem dX7_worthOf_30 : decode cX7_worthOf 30 = .ok (.getfield 10, 3) := by decide +kernel
theorem dX7_worthOf_33 : decode cX7_worthOf 33 = .ok (.getfield 119, 3) := by decide +kernel
theorem dX7_worthOf_36 : decode cX7_worthOf 36 = .ok (.iload_n 3, 1) := by decide +kernel
theorem dX7_worthOf_37 : decode cX7_worthOf 37 = .ok (.iaload, 1) := by decide +kernel
theorem dX7_worthOf_38 : decode cX7_worthOf 38 = .ok (.imul, 1) := by decide +kernel
theorem dX7_worthOf_39 : decode cX7_worthOf 39 = .ok (.isub, 1) := by decide +kernel
theorem dX7_worthOf_40 : decode cX7_worthOf 40 = .ok (.istore_n 2, 1) := by decide +kernel
theorem dX7_worthOf_41 : decode cX7_worthOf 41 = .ok (.iload_n 3, 1) := by decide +kernel
theorem dX7_worthOf_42 : decode cX7_worthOf 42 = .ok (.iconst 1, 1) := by decide +kernel
theorem dX7_worthOf_43 : decode cX7_worthOf 43 = .ok (.iadd, 1) := by decide +kernel
theorem dX7_worthOf_44 : decode cX7_worthOf 44 = .ok (.istore 4, 2) := by decide +kernel
theorem dX7_worthOf_46 : decode cX7_worthOf 46 = .ok (.iload 4, 2) := by decide +kernel
theorem dX7_worthOf_48 : decode cX7_worthOf 48 = .ok (.aload_n 0, 1) := by decide +kernel
theorem dX7_worthOf_49 : decode cX7_worthOf 49 = .ok (.getfield 10, 3) := by decide +kernel
theorem dX7_worthOf_52 : decode cX7_worthOf 52 = .ok (.getfield 110, 3) := by decide +kernel
theorem dX7_worthOf_55 : decode cX7_worthOf 55 = .ok (.if_icmp .ge 34, 3) := by decide +kernel
theorem dX7_worthOf_58 : decode cX7_worthOf 58 = .ok (.iload_n 1, 1) := by decide +kernel
theorem dX7_worthOf_59 : decode cX7_worthOf 59 = .ok (.iload 4, 2) := by decide +kernel
theorem dX7_worthOf_61 : decode cX7_worthOf 61 = .ok (.invokestatic 178, 3) := by decide +kernel
theorem dX7_worthOf_64 : decode cX7_worthOf 64 = .ok (.iand, 1) := by decide +kernel
theorem dX7_worthOf_65 : decode cX7_worthOf 65 = .ok (.ifCond .eq 18, 3) := by decide +kernel
theorem dX7_worthOf_68 : decode cX7_worthOf 68 = .ok (.iload_n 2, 1) := by decide +kernel
theorem dX7_worthOf_69 : decode cX7_worthOf 69 = .ok (.aload_n 0, 1) := by decide +kernel
theorem dX7_worthOf_70 : decode cX7_worthOf 70 = .ok (.getfield 75, 3) := by decide +kernel
theorem dX7_worthOf_73 : decode cX7_worthOf 73 = .ok (.iload_n 3, 1) := by decide +kernel
theorem dX7_worthOf_74 : decode cX7_worthOf 74 = .ok (.bipush 6, 2) := by decide +kernel
theorem dX7_worthOf_76 : decode cX7_worthOf 76 = .ok (.imul, 1) := by decide +kernel
theorem dX7_worthOf_77 : decode cX7_worthOf 77 = .ok (.iload 4, 2) := by decide +kernel
theorem dX7_worthOf_79 : decode cX7_worthOf 79 = .ok (.iadd, 1) := by decide +kernel
theorem dX7_worthOf_80 : decode cX7_worthOf 80 = .ok (.iaload, 1) := by decide +kernel
theorem dX7_worthOf_81 : decode cX7_worthOf 81 = .ok (.iadd, 1) := by decide +kernel
theorem dX7_worthOf_82 : decode cX7_worthOf 82 = .ok (.istore_n 2, 1) := by decide +kernel
theorem dX7_worthOf_83 : decode cX7_worthOf 83 = .ok (.iinc 4 1, 3) := by decide +kernel
theorem dX7_worthOf_86 : decode cX7_worthOf 86 = .ok (.goto (-40), 3) := by decide +kernel
theorem dX7_worthOf_89 : decode cX7_worthOf 89 = .ok (.iinc 3 1, 3) := by decide +kernel
theorem dX7_worthOf_92 : decode cX7_worthOf 92 = .ok (.goto (-88), 3) := by decide +kernel
theorem dX7_worthOf_95 : decode cX7_worthOf 95 = .ok (.iload_n 2, 1) := by decide +kernel
theorem dX7_worthOf_96 : decode cX7_worthOf 96 = .ok (.ireturn, 1) := by decide +kernel
theorem dX7_makeTangle_0 : decode cX7_makeTangle 0 = .ok (.aload_n 0, 1) := by decide +kernel
theorem dX7_makeTangle_1 : decode cX7_makeTangle 1 = .ok (.getfield 10, 3) := by decide +kernel
theorem dX7_makeTangle_4 : decode cX7_makeTangle 4 = .ok (.getfield 104, 3) := by decide +kernel
theorem dX7_makeTangle_7 : decode cX7_makeTangle 7 = .ok (.astore_n 1, 1) := by decide +kernel
theorem dX7_makeTangle_8 : decode cX7_makeTangle 8 = .ok (.aload_n 0, 1) := by decide +kernel
theorem dX7_makeTangle_9 : decode cX7_makeTangle 9 = .ok (.getfield 26, 3) := by decide +kernel
theorem dX7_makeTangle_12 : decode cX7_makeTangle 12 = .ok (.iconst 0, 1) := by decide +kernel
theorem dX7_makeTangle_13 : decode cX7_makeTangle 13 = .ok (.putfield 107, 3) := by decide +kernel
theorem dX7_makeTangle_16 : decode cX7_makeTangle 16 = .ok (.iconst 0, 1) := by decide +kernel
theorem dX7_makeTangle_17 : decode cX7_makeTangle 17 = .ok (.istore_n 2, 1) := by decide +kernel
theorem dX7_makeTangle_18 : decode cX7_makeTangle 18 = .ok (.iload_n 2, 1) := by decide +kernel
theorem dX7_makeTangle_19 : decode cX7_makeTangle 19 = .ok (.aload_n 1, 1) := by decide +kernel
theorem dX7_makeTangle_20 : decode cX7_makeTangle 20 = .ok (.getfield 107, 3) := by decide +kernel
theorem dX7_makeTangle_23 : decode cX7_makeTangle 23 = .ok (.if_icmp .ge 46, 3) := by decide +kernel
theorem dX7_makeTangle_26 : decode cX7_makeTangle 26 = .ok (.aload_n 0, 1) := by decide +kernel
theorem dX7_makeTangle_27 : decode cX7_makeTangle 27 = .ok (.getfield 26, 3) := by decide +kernel
theorem dX7_makeTangle_30 : decode cX7_makeTangle 30 = .ok (.aload_n 1, 1) := by decide +kernel
theorem dX7_makeTangle_31 : decode cX7_makeTangle 31 = .ok (.getfield 165, 3) := by decide +kernel
theorem dX7_makeTangle_34 : decode cX7_makeTangle 34 = .ok (.iload_n 2, 1) := by decide +kernel
theorem dX7_makeTangle_35 : decode cX7_makeTangle 35 = .ok (.iaload, 1) := by decide +kernel
theorem dX7_makeTangle_36 : decode cX7_makeTangle 36 = .ok (.aload_n 1, 1) := by decide +kernel
theorem dX7_makeTangle_37 : decode cX7_makeTangle 37 = .ok (.getfield 175, 3) := by decide +kernel
theorem dX7_makeTangle_40 : decode cX7_makeTangle 40 = .ok (.iload_n 2, 1) := by decide +kernel
theorem dX7_makeTangle_41 : decode cX7_makeTangle 41 = .ok (.iaload, 1) := by decide +kernel
theorem dX7_makeTangle_42 : decode cX7_makeTangle 42 = .ok (.aload_n 1, 1) := by decide +kernel
theorem dX7_makeTangle_43 : decode cX7_makeTangle 43 = .ok (.getfield 200, 3) := by decide +kernel
theorem dX7_makeTangle_46 : decode cX7_makeTangle 46 = .ok (.iload_n 2, 1) := by decide +kernel
theorem dX7_makeTangle_47 : decode cX7_makeTangle 47 = .ok (.iaload, 1) := by decide +kernel
theorem dX7_makeTangle_48 : decode cX7_makeTangle 48 = .ok (.aload_n 1, 1) := by decide +kernel
theorem dX7_makeTangle_49 : decode cX7_makeTangle 49 = .ok (.getfield 203, 3) := by decide +kernel
theorem dX7_makeTangle_52 : decode cX7_makeTangle 52 = .ok (.iload_n 2, 1) := by decide +kernel
theorem dX7_makeTangle_53 : decode cX7_makeTangle 53 = .ok (.iaload, 1) := by decide +kernel
theorem dX7_makeTangle_54 : decode cX7_makeTangle 54 = .ok (.aload_n 1, 1) := by decide +kernel
theorem dX7_makeTangle_55 : decode cX7_makeTangle 55 = .ok (.getfield 319, 3) := by decide +kernel
theorem dX7_makeTangle_58 : decode cX7_makeTangle 58 = .ok (.iload_n 2, 1) := by decide +kernel
theorem dX7_makeTangle_59 : decode cX7_makeTangle 59 = .ok (.iaload, 1) := by decide +kernel
theorem dX7_makeTangle_60 : decode cX7_makeTangle 60 = .ok (.invokevirtual 322, 3) := by decide +kernel
theorem dX7_makeTangle_63 : decode cX7_makeTangle 63 = .ok (.iinc 2 1, 3) := by decide +kernel
theorem dX7_makeTangle_66 : decode cX7_makeTangle 66 = .ok (.goto (-48), 3) := by decide +kernel
theorem dX7_makeTangle_69 : decode cX7_makeTangle 69 = .ok (.return_, 1) := by decide +kernel
theorem dX7_leftWithout_0 : decode cX7_leftWithout 0 = .ok (.aload_n 0, 1) := by decide +kernel
theorem dX7_leftWithout_1 : decode cX7_leftWithout 1 = .ok (.getfield 10, 3) := by decide +kernel
theorem dX7_leftWithout_4 : decode cX7_leftWithout 4 = .ok (.getfield 104, 3) := by decide +kernel
theorem dX7_leftWithout_7 : decode cX7_leftWithout 7 = .ok (.astore_n 2, 1) := by decide +kernel
theorem dX7_leftWithout_8 : decode cX7_leftWithout 8 = .ok (.aload_n 0, 1) := by decide +kernel
theorem dX7_leftWithout_9 : decode cX7_leftWithout 9 = .ok (.getfield 30, 3) := by decide +kernel
theorem dX7_leftWithout_12 : decode cX7_leftWithout 12 = .ok (.iconst 0, 1) := by decide +kernel
theorem dX7_leftWithout_13 : decode cX7_leftWithout 13 = .ok (.putfield 107, 3) := by decide +kernel
theorem dX7_leftWithout_16 : decode cX7_leftWithout 16 = .ok (.iconst 0, 1) := by decide +kernel
theorem dX7_leftWithout_17 : decode cX7_leftWithout 17 = .ok (.istore_n 3, 1) := by decide +kernel
theorem dX7_leftWithout_18 : decode cX7_leftWithout 18 = .ok (.iload_n 3, 1) := by decide +kernel
theorem dX7_leftWithout_19 : decode cX7_leftWithout 19 = .ok (.aload_n 2, 1) := by decide +kernel
theorem dX7_leftWithout_20 : decode cX7_leftWithout 20 = .ok (.getfield 107, 3) := by decide +kernel
theorem dX7_leftWithout_23 : decode cX7_leftWithout 23 = .ok (.if_icmp .ge 48, 3) := by decide +kernel
theorem dX7_leftWithout_26 : decode cX7_leftWithout 26 = .ok (.aload_n 2, 1) := by decide +kernel
theorem dX7_leftWithout_27 : decode cX7_leftWithout 27 = .ok (.iload_n 3, 1) := by decide +kernel
theorem dX7_leftWithout_28 : decode cX7_leftWithout 28 = .ok (.invokevirtual 181, 3) := by decide +kernel
theorem dX7_leftWithout_31 : decode cX7_leftWithout 31 = .ok (.iload_n 1, 1) := by decide +kernel
theorem dX7_leftWithout_32 : decode cX7_leftWithout 32 = .ok (.iand, 1) := by decide +kernel
theorem dX7_leftWithout_33 : decode cX7_leftWithout 33 = .ok (.ifCond .ne 32, 3) := by decide +kernel
theorem dX7_leftWithout_36 : decode cX7_leftWithout 36 = .ok (.aload_n 0, 1) := by decide +kernel
theorem dX7_leftWithout_37 : decode cX7_leftWithout 37 = .ok (.getfield 30, 3) := by decide +kernel
theorem dX7_leftWithout_40 : decode cX7_leftWithout 40 = .ok (.aload_n 2, 1) := by decide +kernel
theorem dX7_leftWithout_41 : decode cX7_leftWithout 41 = .ok (.getfield 319, 3) := by decide +kernel
theorem dX7_leftWithout_44 : decode cX7_leftWithout 44 = .ok (.iload_n 3, 1) := by decide +kernel
theorem dX7_leftWithout_45 : decode cX7_leftWithout 45 = .ok (.iaload, 1) := by decide +kernel
theorem dX7_leftWithout_46 : decode cX7_leftWithout 46 = .ok (.iload_n 1, 1) := by decide +kernel
theorem dX7_leftWithout_47 : decode cX7_leftWithout 47 = .ok (.iconst (-1), 1) := by decide +kernel
theorem dX7_leftWithout_48 : decode cX7_leftWithout 48 = .ok (.ixor, 1) := by decide +kernel
theorem dX7_leftWithout_49 : decode cX7_leftWithout 49 = .ok (.iand, 1) := by decide +kernel
theorem dX7_leftWithout_50 : decode cX7_leftWithout 50 = .ok (.invokestatic 195, 3) := by decide +kernel
theorem dX7_leftWithout_53 : decode cX7_leftWithout 53 = .ok (.aload_n 2, 1) := by decide +kernel
theorem dX7_leftWithout_54 : decode cX7_leftWithout 54 = .ok (.getfield 175, 3) := by decide +kernel
theorem dX7_leftWithout_57 : decode cX7_leftWithout 57 = .ok (.iload_n 3, 1) := by decide +kernel
theorem dX7_leftWithout_58 : decode cX7_leftWithout 58 = .ok (.iaload, 1) := by decide +kernel
theorem dX7_leftWithout_59 : decode cX7_leftWithout 59 = .ok (.iconst 0, 1) := by decide +kernel
theorem dX7_leftWithout_60 : decode cX7_leftWithout 60 = .ok (.iconst 0, 1) := by decide +kernel
theorem dX7_leftWithout_61 : decode cX7_leftWithout 61 = .ok (.iconst 0, 1) := by decide +kernel
theorem dX7_leftWithout_62 : decode cX7_leftWithout 62 = .ok (.invokevirtual 322, 3) := by decide +kernel
theorem dX7_leftWithout_65 : decode cX7_leftWithout 65 = .ok (.iinc 3 1, 3) := by decide +kernel
theorem dX7_leftWithout_68 : decode cX7_leftWithout 68 = .ok (.goto (-50), 3) := by decide +kernel
theorem dX7_leftWithout_71 : decode cX7_leftWithout 71 = .ok (.aload_n 0, 1) := by decide +kernel
theorem dX7_leftWithout_72 : decode cX7_leftWithout 72 = .ok (.getfield 30, 3) := by decide +kernel
theorem dX7_leftWithout_75 : decode cX7_leftWithout 75 = .ok (.getfield 107, 3) := by decide +kernel
theorem dX7_leftWithout_78 : decode cX7_leftWithout 78 = .ok (.ireturn, 1) := by decide +kernel
theorem dX7_leftOfDrawn_0 : decode cX7_leftOfDrawn 0 = .ok (.aload_n 0, 1) := by decide +kernel
theorem dX7_leftOfDrawn_1 : decode cX7_leftOfDrawn 1 = .ok (.getfield 10, 3) := by decide +kernel
theorem dX7_leftOfDrawn_4 : decode cX7_leftOfDrawn 4 = .ok (.getfield 110, 3) := by decide +kernel
theorem dX7_leftOfDrawn_7 : decode cX7_leftOfDrawn 7 = .ok (.iconst 1, 1) := by decide +kernel
theorem dX7_leftOfDrawn_8 : decode cX7_leftOfDrawn 8 = .ok (.isub, 1) := by decide +kernel
theorem dX7_leftOfDrawn_9 : decode cX7_leftOfDrawn 9 = .ok (.istore_n 3, 1) := by decide +kernel
theorem dX7_leftOfDrawn_10 : decode cX7_leftOfDrawn 10 = .ok (.iload_n 3, 1) := by decide +kernel
theorem dX7_leftOfDrawn_11 : decode cX7_leftOfDrawn 11 = .ok (.iconst 1, 1) := by decide +kernel
theorem dX7_leftOfDrawn_12 : decode cX7_leftOfDrawn 12 = .ok (.if_icmp .ge 5, 3) := by decide +kernel
theorem dX7_leftOfDrawn_15 : decode cX7_leftOfDrawn 15 = .ok (.iconst 0, 1) := by decide +kernel
theorem dX7_leftOfDrawn_16 : decode cX7_leftOfDrawn 16 = .ok (.ireturn, 1) := by decide +kernel
theorem dX7_leftOfDrawn_17 : decode cX7_leftOfDrawn 17 = .ok (.aload_n 0, 1) := by decide +kernel
theorem dX7_leftOfDrawn_18 : decode cX7_leftOfDrawn 18 = .ok (.getfield 30, 3) := by decide +kernel
theorem dX7_leftOfDrawn_21 : decode cX7_leftOfDrawn 21 = .ok (.iconst 0, 1) := by decide +kernel
theorem dX7_leftOfDrawn_22 : decode cX7_leftOfDrawn 22 = .ok (.putfield 107, 3) := by decide +kernel
theorem dX7_leftOfDrawn_25 : decode cX7_leftOfDrawn 25 = .ok (.iload_n 1, 1) := by decide +kernel
theorem dX7_leftOfDrawn_26 : decode cX7_leftOfDrawn 26 = .ok (.istore 4, 2) := by decide +kernel
theorem dX7_leftOfDrawn_28 : decode cX7_leftOfDrawn 28 = .ok (.iconst 0, 1) := by decide +kernel
theorem dX7_leftOfDrawn_29 : decode cX7_leftOfDrawn 29 = .ok (.istore 5, 2) := by decide +kernel
theorem dX7_leftOfDrawn_31 : decode cX7_leftOfDrawn 31 = .ok (.iload 5, 2) := by decide +kernel
theorem dX7_leftOfDrawn_33 : decode cX7_leftOfDrawn 33 = .ok (.iload_n 2, 1) := by decide +kernel
theorem dX7_leftOfDrawn_34 : decode cX7_leftOfDrawn 34 = .ok (.if_icmp .ge 45, 3) := by decide +kernel
theorem dX7_leftOfDrawn_37 : decode cX7_leftOfDrawn 37 = .ok (.iload 4, 2) := by decide +kernel
theorem dX7_leftOfDrawn_39 : decode cX7_leftOfDrawn 39 = .ok (.ldc_w 325, 3) := by decide +kernel
theorem dX7_leftOfDrawn_42 : decode cX7_leftOfDrawn 42 = .ok (.imul, 1) := by decide +kernel
theorem dX7_leftOfDrawn_43 : decode cX7_leftOfDrawn 43 = .ok (.sipush 12345, 3) := by decide +kernel
theorem dX7_leftOfDrawn_46 : decode cX7_leftOfDrawn 46 = .ok (.iadd, 1) := by decide +kernel
theorem dX7_leftOfDrawn_47 : decode cX7_leftOfDrawn 47 = .ok (.istore 4, 2) := by decide +kernel
theorem dX7_leftOfDrawn_49 : decode cX7_leftOfDrawn 49 = .ok (.aload_n 0, 1) := by decide +kernel
theorem dX7_leftOfDrawn_50 : decode cX7_leftOfDrawn 50 = .ok (.getfield 30, 3) := by decide +kernel
theorem dX7_leftOfDrawn_53 : decode cX7_leftOfDrawn 53 = .ok (.iload 4, 2) := by decide +kernel
theorem dX7_leftOfDrawn_55 : decode cX7_leftOfDrawn 55 = .ok (.bipush 8, 2) := by decide +kernel
theorem dX7_leftOfDrawn_57 : decode cX7_leftOfDrawn 57 = .ok (.iushr, 1) := by decide +kernel
theorem dX7_leftOfDrawn_58 : decode cX7_leftOfDrawn 58 = .ok (.iload_n 3, 1) := by decide +kernel
theorem dX7_leftOfDrawn_59 : decode cX7_leftOfDrawn 59 = .ok (.irem, 1) := by decide +kernel
theorem dX7_leftOfDrawn_60 : decode cX7_leftOfDrawn 60 = .ok (.iload 4, 2) := by decide +kernel
theorem dX7_leftOfDrawn_62 : decode cX7_leftOfDrawn 62 = .ok (.bipush 16, 2) := by decide +kernel
theorem dX7_leftOfDrawn_64 : decode cX7_leftOfDrawn 64 = .ok (.iushr, 1) := by decide +kernel
theorem dX7_leftOfDrawn_65 : decode cX7_leftOfDrawn 65 = .ok (.iconst 2, 1) := by decide +kernel
theorem dX7_leftOfDrawn_66 : decode cX7_leftOfDrawn 66 = .ok (.irem, 1) := by decide +kernel
theorem dX7_leftOfDrawn_67 : decode cX7_leftOfDrawn 67 = .ok (.iconst 0, 1) := by decide +kernel
theorem dX7_leftOfDrawn_68 : decode cX7_leftOfDrawn 68 = .ok (.iconst 0, 1) := by decide +kernel
theorem dX7_leftOfDrawn_69 : decode cX7_leftOfDrawn 69 = .ok (.iconst 0, 1) := by decide +kernel
theorem dX7_leftOfDrawn_70 : decode cX7_leftOfDrawn 70 = .ok (.invokevirtual 322, 3) := by decide +kernel
theorem dX7_leftOfDrawn_73 : decode cX7_leftOfDrawn 73 = .ok (.iinc 5 1, 3) := by decide +kernel
theorem dX7_leftOfDrawn_76 : decode cX7_leftOfDrawn 76 = .ok (.goto (-45), 3) := by decide +kernel
theorem dX7_leftOfDrawn_79 : decode cX7_leftOfDrawn 79 = .ok (.aload_n 0, 1) := by decide +kernel
theorem dX7_leftOfDrawn_80 : decode cX7_leftOfDrawn 80 = .ok (.getfield 30, 3) := by decide +kernel
theorem dX7_leftOfDrawn_83 : decode cX7_leftOfDrawn 83 = .ok (.getfield 107, 3) := by decide +kernel
theorem dX7_leftOfDrawn_86 : decode cX7_leftOfDrawn 86 = .ok (.ireturn, 1) := by decide +kernel
theorem dX7_refusalOfOrder_0 : decode cX7_refusalOfOrder 0 = .ok (.iload_n 1, 1) := by decide +kernel
theorem dX7_refusalOfOrder_1 : decode cX7_refusalOfOrder 1 = .ok (.invokestatic 269, 3) := by decide +kernel
theorem dX7_refusalOfOrder_4 : decode cX7_refusalOfOrder 4 = .ok (.ifCond .ne 6, 3) := by decide +kernel
theorem dX7_refusalOfOrder_7 : decode cX7_refusalOfOrder 7 = .ok (.bipush (-2), 2) := by decide +kernel
theorem dX7_refusalOfOrder_9 : decode cX7_refusalOfOrder 9 = .ok (.ireturn, 1) := by decide +kernel
theorem dX7_refusalOfOrder_10 : decode cX7_refusalOfOrder 10 = .ok (.aload_n 0, 1) := by decide +kernel
theorem dX7_refusalOfOrder_11 : decode cX7_refusalOfOrder 11 = .ok (.getfield 65, 3) := by decide +kernel
theorem dX7_refusalOfOrder_14 : decode cX7_refusalOfOrder 14 = .ok (.iload_n 1, 1) := by decide +kernel
theorem dX7_refusalOfOrder_15 : decode cX7_refusalOfOrder 15 = .ok (.aaload, 1) := by decide +kernel
theorem dX7_refusalOfOrder_16 : decode cX7_refusalOfOrder 16 = .ok (.astore_n 2, 1) := by decide +kernel
theorem dX7_refusalOfOrder_17 : decode cX7_refusalOfOrder 17 = .ok (.aload_n 2, 1) := by decide +kernel
theorem dX7_refusalOfOrder_18 : decode cX7_refusalOfOrder 18 = .ok (.getfield 275, 3) := by decide +kernel
theorem dX7_refusalOfOrder_21 : decode cX7_refusalOfOrder 21 = .ok (.iconst (-1), 1) := by decide +kernel
theorem dX7_refusalOfOrder_22 : decode cX7_refusalOfOrder 22 = .ok (.if_icmp .ne 6, 3) := by decide +kernel
theorem dX7_refusalOfOrder_25 : decode cX7_refusalOfOrder 25 = .ok (.bipush (-11), 2) := by decide +kernel
theorem dX7_refusalOfOrder_27 : decode cX7_refusalOfOrder 27 = .ok (.ireturn, 1) := by decide +kernel
theorem dX7_refusalOfOrder_28 : decode cX7_refusalOfOrder 28 = .ok (.aload_n 2, 1) := by decide +kernel
theorem dX7_refusalOfOrder_29 : decode cX7_refusalOfOrder 29 = .ok (.getfield 218, 3) := by decide +kernel
theorem dX7_refusalOfOrder_32 : decode cX7_refusalOfOrder 32 = .ok (.aload_n 0, 1) := by decide +kernel
theorem dX7_refusalOfOrder_33 : decode cX7_refusalOfOrder 33 = .ok (.getfield 10, 3) := by decide +kernel
theorem dX7_refusalOfOrder_36 : decode cX7_refusalOfOrder 36 = .ok (.getfield 110, 3) := by decide +kernel
theorem dX7_refusalOfOrder_39 : decode cX7_refusalOfOrder 39 = .ok (.if_icmp .eq 6, 3) := by decide +kernel
theorem dX7_refusalOfOrder_42 : decode cX7_refusalOfOrder 42 = .ok (.bipush (-2), 2) := by decide +kernel
theorem dX7_refusalOfOrder_44 : decode cX7_refusalOfOrder 44 = .ok (.ireturn, 1) := by decide +kernel
theorem dX7_refusalOfOrder_45 : decode cX7_refusalOfOrder 45 = .ok (.iconst 0, 1) := by decide +kernel
theorem dX7_refusalOfOrder_46 : decode cX7_refusalOfOrder 46 = .ok (.istore_n 3, 1) := by decide +kernel
theorem dX7_refusalOfOrder_47 : decode cX7_refusalOfOrder 47 = .ok (.iconst 0, 1) := by decide +kernel
theorem dX7_refusalOfOrder_48 : decode cX7_refusalOfOrder 48 = .ok (.istore 4, 2) := by decide +kernel
theorem dX7_refusalOfOrder_50 : decode cX7_refusalOfOrder 50 = .ok (.iload 4, 2) := by decide +kernel
theorem dX7_refusalOfOrder_52 : decode cX7_refusalOfOrder 52 = .ok (.aload_n 2, 1) := by decide +kernel
theorem dX7_refusalOfOrder_53 : decode cX7_refusalOfOrder 53 = .ok (.getfield 218, 3) := by decide +kernel
theorem dX7_refusalOfOrder_56 : decode cX7_refusalOfOrder 56 = .ok (.if_icmp .ge 39, 3) := by decide +kernel
theorem dX7_refusalOfOrder_59 : decode cX7_refusalOfOrder 59 = .ok (.aload_n 0, 1) := by decide +kernel
theorem dX7_refusalOfOrder_60 : decode cX7_refusalOfOrder 60 = .ok (.aload_n 2, 1) := by decide +kernel
theorem dX7_refusalOfOrder_61 : decode cX7_refusalOfOrder 61 = .ok (.getfield 219, 3) := by decide +kernel
theorem dX7_refusalOfOrder_64 : decode cX7_refusalOfOrder 64 = .ok (.iload 4, 2) := by decide +kernel
theorem dX7_refusalOfOrder_66 : decode cX7_refusalOfOrder 66 = .ok (.iaload, 1) := by decide +kernel
theorem dX7_refusalOfOrder_67 : decode cX7_refusalOfOrder 67 = .ok (.invokevirtual 115, 3) := by decide +kernel
theorem dX7_refusalOfOrder_70 : decode cX7_refusalOfOrder 70 = .ok (.ifCond .ne 6, 3) := by decide +kernel
theorem dX7_refusalOfOrder_73 : decode cX7_refusalOfOrder 73 = .ok (.bipush (-2), 2) := by decide +kernel
theorem dX7_refusalOfOrder_75 : decode cX7_refusalOfOrder 75 = .ok (.ireturn, 1) := by decide +kernel
theorem dX7_refusalOfOrder_76 : decode cX7_refusalOfOrder 76 = .ok (.iload_n 3, 1) := by decide +kernel
theorem dX7_refusalOfOrder_77 : decode cX7_refusalOfOrder 77 = .ok (.aload_n 2, 1) := by decide +kernel
theorem dX7_refusalOfOrder_78 : decode cX7_refusalOfOrder 78 = .ok (.getfield 219, 3) := by decide +kernel
theorem dX7_refusalOfOrder_81 : decode cX7_refusalOfOrder 81 = .ok (.iload 4, 2) := by decide +kernel
theorem dX7_refusalOfOrder_83 : decode cX7_refusalOfOrder 83 = .ok (.iaload, 1) := by decide +kernel
theorem dX7_refusalOfOrder_84 : decode cX7_refusalOfOrder 84 = .ok (.invokestatic 178, 3) := by decide +kernel
theorem dX7_refusalOfOrder_87 : decode cX7_refusalOfOrder 87 = .ok (.ior, 1) := by decide +kernel
theorem dX7_refusalOfOrder_88 : decode cX7_refusalOfOrder 88 = .ok (.istore_n 3, 1) := by decide +kernel
theorem dX7_refusalOfOrder_89 : decode cX7_refusalOfOrder 89 = .ok (.iinc 4 1, 3) := by decide +kernel
theorem dX7_refusalOfOrder_92 : decode cX7_refusalOfOrder 92 = .ok (.goto (-42), 3) := by decide +kernel
theorem dX7_refusalOfOrder_95 : decode cX7_refusalOfOrder 95 = .ok (.iload_n 3, 1) := by decide +kernel
theorem dX7_refusalOfOrder_96 : decode cX7_refusalOfOrder 96 = .ok (.aload_n 0, 1) := by decide +kernel
theorem dX7_refusalOfOrder_97 : decode cX7_refusalOfOrder 97 = .ok (.invokevirtual 189, 3) := by decide +kernel
theorem dX7_refusalOfOrder_100 : decode cX7_refusalOfOrder 100 = .ok (.if_icmp .ne 7, 3) := by decide +kernel
theorem dX7_refusalOfOrder_103 : decode cX7_refusalOfOrder 103 = .ok (.iconst 0, 1) := by decide +kernel
theorem dX7_refusalOfOrder_104 : decode cX7_refusalOfOrder 104 = .ok (.goto 5, 3) := by decide +kernel
theorem dX7_refusalOfOrder_107 : decode cX7_refusalOfOrder 107 = .ok (.bipush (-2), 2) := by decide +kernel
theorem dX7_refusalOfOrder_109 : decode cX7_refusalOfOrder 109 = .ok (.ireturn, 1) := by decide +kernel
theorem dX7_findBestOrder_0 : decode cX7_findBestOrder 0 = .ok (.aload_n 0, 1) := by decide +kernel
theorem dX7_findBestOrder_1 : decode cX7_findBestOrder 1 = .ok (.getfield 36, 3) := by decide +kernel
theorem dX7_findBestOrder_4 : decode cX7_findBestOrder 4 = .ok (.aload_n 0, 1) := by decide +kernel
theorem dX7_findBestOrder_5 : decode cX7_findBestOrder 5 = .ok (.getfield 10, 3) := by decide +kernel
theorem dX7_findBestOrder_8 : decode cX7_findBestOrder 8 = .ok (.getfield 110, 3) := by decide +kernel
theorem dX7_findBestOrder_11 : decode cX7_findBestOrder 11 = .ok (.invokevirtual 238, 3) := by decide +kernel
theorem dX7_findBestOrder_14 : decode cX7_findBestOrder 14 = .ok (.iconst 0, 1) := by decide +kernel
theorem dX7_findBestOrder_15 : decode cX7_findBestOrder 15 = .ok (.istore_n 1, 1) := by decide +kernel
theorem dX7_findBestOrder_16 : decode cX7_findBestOrder 16 = .ok (.iload_n 1, 1) := by decide +kernel
theorem dX7_findBestOrder_17 : decode cX7_findBestOrder 17 = .ok (.iconst 1, 1) := by decide +kernel
theorem dX7_findBestOrder_18 : decode cX7_findBestOrder 18 = .ok (.iadd, 1) := by decide +kernel
theorem dX7_findBestOrder_19 : decode cX7_findBestOrder 19 = .ok (.aload_n 0, 1) := by decide +kernel
theorem dX7_findBestOrder_20 : decode cX7_findBestOrder 20 = .ok (.getfield 10, 3) := by decide +kernel
theorem dX7_findBestOrder_23 : decode cX7_findBestOrder 23 = .ok (.getfield 110, 3) := by decide +kernel
theorem dX7_findBestOrder_26 : decode cX7_findBestOrder 26 = .ok (.if_icmp .ge 86, 3) := by decide +kernel
theorem dX7_findBestOrder_29 : decode cX7_findBestOrder 29 = .ok (.iconst 0, 1) := by decide +kernel
theorem dX7_findBestOrder_30 : decode cX7_findBestOrder 30 = .ok (.istore_n 2, 1) := by decide +kernel
theorem dX7_findBestOrder_31 : decode cX7_findBestOrder 31 = .ok (.iload_n 2, 1) := by decide +kernel
theorem dX7_findBestOrder_32 : decode cX7_findBestOrder 32 = .ok (.aload_n 0, 1) := by decide +kernel
theorem dX7_findBestOrder_33 : decode cX7_findBestOrder 33 = .ok (.getfield 10, 3) := by decide +kernel
theorem dX7_findBestOrder_36 : decode cX7_findBestOrder 36 = .ok (.getfield 110, 3) := by decide +kernel
theorem dX7_findBestOrder_39 : decode cX7_findBestOrder 39 = .ok (.if_icmp .ge 67, 3) := by decide +kernel
theorem dX7_findBestOrder_42 : decode cX7_findBestOrder 42 = .ok (.iconst 0, 1) := by decide +kernel
theorem dX7_findBestOrder_43 : decode cX7_findBestOrder 43 = .ok (.istore_n 3, 1) := by decide +kernel
theorem dX7_findBestOrder_44 : decode cX7_findBestOrder 44 = .ok (.iload_n 3, 1) := by decide +kernel
theorem dX7_findBestOrder_45 : decode cX7_findBestOrder 45 = .ok (.aload_n 0, 1) := by decide +kernel
theorem dX7_findBestOrder_46 : decode cX7_findBestOrder 46 = .ok (.getfield 10, 3) := by decide +kernel
theorem dX7_findBestOrder_49 : decode cX7_findBestOrder 49 = .ok (.getfield 110, 3) := by decide +kernel
theorem dX7_findBestOrder_52 : decode cX7_findBestOrder 52 = .ok (.if_icmp .ge 48, 3) := by decide +kernel
theorem dX7_findBestOrder_55 : decode cX7_findBestOrder 55 = .ok (.iload_n 2, 1) := by decide +kernel
theorem dX7_findBestOrder_56 : decode cX7_findBestOrder 56 = .ok (.iload_n 3, 1) := by decide +kernel
theorem dX7_findBestOrder_57 : decode cX7_findBestOrder 57 = .ok (.if_icmp .eq 37, 3) := by decide +kernel
theorem dX7_findBestOrder_60 : decode cX7_findBestOrder 60 = .ok (.iload_n 2, 1) := by decide +kernel
theorem dX7_findBestOrder_61 : decode cX7_findBestOrder 61 = .ok (.iload_n 3, 1) := by decide +kernel
theorem dX7_findBestOrder_62 : decode cX7_findBestOrder 62 = .ok (.if_icmp .ge 7, 3) := by decide +kernel
theorem dX7_findBestOrder_65 : decode cX7_findBestOrder 65 = .ok (.iload_n 1, 1) := by decide +kernel
theorem dX7_findBestOrder_66 : decode cX7_findBestOrder 66 = .ok (.goto 6, 3) := by decide +kernel
theorem dX7_findBestOrder_69 : decode cX7_findBestOrder 69 = .ok (.iload_n 1, 1) := by decide +kernel
theorem dX7_findBestOrder_70 : decode cX7_findBestOrder 70 = .ok (.iconst 1, 1) := by decide +kernel
theorem dX7_findBestOrder_71 : decode cX7_findBestOrder 71 = .ok (.iadd, 1) := by decide +kernel
theorem dX7_findBestOrder_72 : decode cX7_findBestOrder 72 = .ok (.istore 4, 2) := by decide +kernel
theorem dX7_findBestOrder_74 : decode cX7_findBestOrder 74 = .ok (.aload_n 0, 1) := by decide +kernel
theorem dX7_findBestOrder_75 : decode cX7_findBestOrder 75 = .ok (.getfield 36, 3) := by decide +kernel
theorem dX7_findBestOrder_78 : decode cX7_findBestOrder 78 = .ok (.iload_n 1, 1) := by decide +kernel
theorem dX7_findBestOrder_79 : decode cX7_findBestOrder 79 = .ok (.iload_n 2, 1) := by decide +kernel
theorem dX7_findBestOrder_80 : decode cX7_findBestOrder 80 = .ok (.iload_n 3, 1) := by decide +kernel
theorem dX7_findBestOrder_81 : decode cX7_findBestOrder 81 = .ok (.aload_n 0, 1) := by decide +kernel
theorem dX7_findBestOrder_82 : decode cX7_findBestOrder 82 = .ok (.iconst 0, 1) := by decide +kernel
theorem dX7_findBestOrder_83 : decode cX7_findBestOrder 83 = .ok (.iload_n 2, 1) := by decide +kernel
theorem dX7_findBestOrder_84 : decode cX7_findBestOrder 84 = .ok (.iload_n 3, 1) := by decide +kernel
theorem dX7_findBestOrder_85 : decode cX7_findBestOrder 85 = .ok (.iconst 1, 1) := by decide +kernel
theorem dX7_findBestOrder_86 : decode cX7_findBestOrder 86 = .ok (.iload 4, 2) := by decide +kernel
theorem dX7_findBestOrder_88 : decode cX7_findBestOrder 88 = .ok (.invokevirtual 241, 3) := by decide +kernel
theorem dX7_findBestOrder_91 : decode cX7_findBestOrder 91 = .ok (.invokevirtual 326, 3) := by decide +kernel
theorem dX7_findBestOrder_94 : decode cX7_findBestOrder 94 = .ok (.iinc 3 1, 3) := by decide +kernel
theorem dX7_findBestOrder_97 : decode cX7_findBestOrder 97 = .ok (.goto (-53), 3) := by decide +kernel
theorem dX7_findBestOrder_100 : decode cX7_findBestOrder 100 = .ok (.iinc 2 1, 3) := by decide +kernel
theorem dX7_findBestOrder_103 : decode cX7_findBestOrder 103 = .ok (.goto (-72), 3) := by decide +kernel
theorem dX7_findBestOrder_106 : decode cX7_findBestOrder 106 = .ok (.iinc 1 1, 3) := by decide +kernel
theorem dX7_findBestOrder_109 : decode cX7_findBestOrder 109 = .ok (.goto (-93), 3) := by decide +kernel
theorem dX7_findBestOrder_112 : decode cX7_findBestOrder 112 = .ok (.aload_n 0, 1) := by decide +kernel
theorem dX7_findBestOrder_113 : decode cX7_findBestOrder 113 = .ok (.getfield 36, 3) := by decide +kernel
theorem dX7_findBestOrder_116 : decode cX7_findBestOrder 116 = .ok (.invokevirtual 249, 3) := by decide +kernel
theorem dX7_findBestOrder_119 : decode cX7_findBestOrder 119 = .ok (.ireturn, 1) := by decide +kernel
theorem dX7_findFetchOrder_0 : decode cX7_findFetchOrder 0 = .ok (.aload_n 0, 1) := by decide +kernel
theorem dX7_findFetchOrder_1 : decode cX7_findFetchOrder 1 = .ok (.getfield 36, 3) := by decide +kernel
theorem dX7_findFetchOrder_4 : decode cX7_findFetchOrder 4 = .ok (.aload_n 0, 1) := by decide +kernel
theorem dX7_findFetchOrder_5 : decode cX7_findFetchOrder 5 = .ok (.getfield 10, 3) := by decide +kernel
theorem dX7_findFetchOrder_8 : decode cX7_findFetchOrder 8 = .ok (.getfield 110, 3) := by decide +kernel
theorem dX7_findFetchOrder_11 : decode cX7_findFetchOrder 11 = .ok (.invokevirtual 238, 3) := by decide +kernel
theorem dX7_findFetchOrder_14 : decode cX7_findFetchOrder 14 = .ok (.iconst 0, 1) := by decide +kernel
theorem dX7_findFetchOrder_15 : decode cX7_findFetchOrder 15 = .ok (.istore_n 1, 1) := by decide +kernel
theorem dX7_findFetchOrder_16 : decode cX7_findFetchOrder 16 = .ok (.iload_n 1, 1) := by decide +kernel
theorem dX7_findFetchOrder_17 : decode cX7_findFetchOrder 17 = .ok (.aload_n 0, 1) := by decide +kernel
theorem dX7_findFetchOrder_18 : decode cX7_findFetchOrder 18 = .ok (.getfield 10, 3) := by decide +kernel
theorem dX7_findFetchOrder_21 : decode cX7_findFetchOrder 21 = .ok (.getfield 110, 3) := by decide +kernel
theorem dX7_findFetchOrder_24 : decode cX7_findFetchOrder 24 = .ok (.if_icmp .ge 77, 3) := by decide +kernel
theorem dX7_findFetchOrder_27 : decode cX7_findFetchOrder 27 = .ok (.aload_n 0, 1) := by decide +kernel
theorem dX7_findFetchOrder_28 : decode cX7_findFetchOrder 28 = .ok (.getfield 36, 3) := by decide +kernel
theorem dX7_findFetchOrder_31 : decode cX7_findFetchOrder 31 = .ok (.getfield 330, 3) := by decide +kernel
theorem dX7_findFetchOrder_34 : decode cX7_findFetchOrder 34 = .ok (.iload_n 1, 1) := by decide +kernel
theorem dX7_findFetchOrder_35 : decode cX7_findFetchOrder 35 = .ok (.aload_n 0, 1) := by decide +kernel
theorem dX7_findFetchOrder_36 : decode cX7_findFetchOrder 36 = .ok (.getfield 10, 3) := by decide +kernel
theorem dX7_findFetchOrder_39 : decode cX7_findFetchOrder 39 = .ok (.getfield 129, 3) := by decide +kernel
theorem dX7_findFetchOrder_42 : decode cX7_findFetchOrder 42 = .ok (.iload_n 1, 1) := by decide +kernel
theorem dX7_findFetchOrder_43 : decode cX7_findFetchOrder 43 = .ok (.iaload, 1) := by decide +kernel
theorem dX7_findFetchOrder_44 : decode cX7_findFetchOrder 44 = .ok (.iastore, 1) := by decide +kernel
theorem dX7_findFetchOrder_45 : decode cX7_findFetchOrder 45 = .ok (.iconst 0, 1) := by decide +kernel
theorem dX7_findFetchOrder_46 : decode cX7_findFetchOrder 46 = .ok (.istore_n 2, 1) := by decide +kernel
theorem dX7_findFetchOrder_47 : decode cX7_findFetchOrder 47 = .ok (.iload_n 2, 1) := by decide +kernel
theorem dX7_findFetchOrder_48 : decode cX7_findFetchOrder 48 = .ok (.aload_n 0, 1) := by decide +kernel
theorem dX7_findFetchOrder_49 : decode cX7_findFetchOrder 49 = .ok (.getfield 10, 3) := by decide +kernel
theorem dX7_findFetchOrder_52 : decode cX7_findFetchOrder 52 = .ok (.getfield 110, 3) := by decide +kernel
theorem dX7_findFetchOrder_55 : decode cX7_findFetchOrder 55 = .ok (.if_icmp .ge 40, 3) := by decide +kernel
theorem dX7_findFetchOrder_58 : decode cX7_findFetchOrder 58 = .ok (.aload_n 0, 1) := by decide +kernel
theorem dX7_findFetchOrder_59 : decode cX7_findFetchOrder 59 = .ok (.getfield 36, 3) := by decide +kernel
theorem dX7_findFetchOrder_62 : decode cX7_findFetchOrder 62 = .ok (.iload_n 1, 1) := by decide +kernel
theorem dX7_findFetchOrder_63 : decode cX7_findFetchOrder 63 = .ok (.iload_n 2, 1) := by decide +kernel
theorem dX7_findFetchOrder_64 : decode cX7_findFetchOrder 64 = .ok (.aload_n 0, 1) := by decide +kernel
theorem dX7_findFetchOrder_65 : decode cX7_findFetchOrder 65 = .ok (.getfield 10, 3) := by decide +kernel
theorem dX7_findFetchOrder_68 : decode cX7_findFetchOrder 68 = .ok (.getfield 129, 3) := by decide +kernel
theorem dX7_findFetchOrder_71 : decode cX7_findFetchOrder 71 = .ok (.iload_n 1, 1) := by decide +kernel
theorem dX7_findFetchOrder_72 : decode cX7_findFetchOrder 72 = .ok (.iaload, 1) := by decide +kernel
theorem dX7_findFetchOrder_73 : decode cX7_findFetchOrder 73 = .ok (.aload_n 0, 1) := by decide +kernel
theorem dX7_findFetchOrder_74 : decode cX7_findFetchOrder 74 = .ok (.getfield 10, 3) := by decide +kernel
theorem dX7_findFetchOrder_77 : decode cX7_findFetchOrder 77 = .ok (.getfield 129, 3) := by decide +kernel
theorem dX7_findFetchOrder_80 : decode cX7_findFetchOrder 80 = .ok (.iload_n 2, 1) := by decide +kernel
theorem dX7_findFetchOrder_81 : decode cX7_findFetchOrder 81 = .ok (.iaload, 1) := by decide +kernel
theorem dX7_findFetchOrder_82 : decode cX7_findFetchOrder 82 = .ok (.isub, 1) := by decide +kernel
theorem dX7_findFetchOrder_83 : decode cX7_findFetchOrder 83 = .ok (.invokestatic 306, 3) := by decide +kernel
theorem dX7_findFetchOrder_86 : decode cX7_findFetchOrder 86 = .ok (.invokevirtual 245, 3) := by decide +kernel
theorem dX7_findFetchOrder_89 : decode cX7_findFetchOrder 89 = .ok (.iinc 2 1, 3) := by decide +kernel
theorem dX7_findFetchOrder_92 : decode cX7_findFetchOrder 92 = .ok (.goto (-45), 3) := by decide +kernel
theorem dX7_findFetchOrder_95 : decode cX7_findFetchOrder 95 = .ok (.iinc 1 1, 3) := by decide +kernel
theorem dX7_findFetchOrder_98 : decode cX7_findFetchOrder 98 = .ok (.goto (-82), 3) := by decide +kernel
theorem dX7_findFetchOrder_101 : decode cX7_findFetchOrder 101 = .ok (.aload_n 0, 1) := by decide +kernel
theorem dX7_findFetchOrder_102 : decode cX7_findFetchOrder 102 = .ok (.getfield 36, 3) := by decide +kernel
theorem dX7_findFetchOrder_105 : decode cX7_findFetchOrder 105 = .ok (.invokevirtual 249, 3) := by decide +kernel
theorem dX7_findFetchOrder_108 : decode cX7_findFetchOrder 108 = .ok (.ireturn, 1) := by decide +kernel
theorem dX7_rowsLeadingTo_0 : decode cX7_rowsLeadingTo 0 = .ok (.iload_n 2, 1) := by decide +kernel
theorem dX7_rowsLeadingTo_1 : decode cX7_rowsLeadingTo 1 = .ok (.iload_n 3, 1) := by decide +kernel
theorem dX7_rowsLeadingTo_2 : decode cX7_rowsLeadingTo 2 = .ok (.if_icmp .ge 8, 3) := by decide +kernel
theorem dX7_rowsLeadingTo_5 : decode cX7_rowsLeadingTo 5 = .ok (.iload_n 2, 1) := by decide +kernel
theorem dX7_rowsLeadingTo_6 : decode cX7_rowsLeadingTo 6 = .ok (.iconst 4, 1) := by decide +kernel
theorem dX7_rowsLeadingTo_7 : decode cX7_rowsLeadingTo 7 = .ok (.if_icmp .lt 17, 3) := by decide +kernel
theorem dX7_rowsLeadingTo_10 : decode cX7_rowsLeadingTo 10 = .ok (.aload_n 0, 1) := by decide +kernel
theorem dX7_rowsLeadingTo_11 : decode cX7_rowsLeadingTo 11 = .ok (.aload_n 1, 1) := by decide +kernel
theorem dX7_rowsLeadingTo_12 : decode cX7_rowsLeadingTo 12 = .ok (.invokevirtual 333, 3) := by decide +kernel
theorem dX7_rowsLeadingTo_15 : decode cX7_rowsLeadingTo 15 = .ok (.ifCond .eq 7, 3) := by decide +kernel
theorem dX7_rowsLeadingTo_18 : decode cX7_rowsLeadingTo 18 = .ok (.iconst 1, 1) := by decide +kernel
theorem dX7_rowsLeadingTo_19 : decode cX7_rowsLeadingTo 19 = .ok (.goto 4, 3) := by decide +kernel
theorem dX7_rowsLeadingTo_22 : decode cX7_rowsLeadingTo 22 = .ok (.iconst 0, 1) := by decide +kernel
theorem dX7_rowsLeadingTo_23 : decode cX7_rowsLeadingTo 23 = .ok (.ireturn, 1) := by decide +kernel
theorem dX7_rowsLeadingTo_24 : decode cX7_rowsLeadingTo 24 = .ok (.iconst 0, 1) := by decide +kernel
theorem dX7_rowsLeadingTo_25 : decode cX7_rowsLeadingTo 25 = .ok (.istore 5, 2) := by decide +kernel
theorem dX7_rowsLeadingTo_27 : decode cX7_rowsLeadingTo 27 = .ok (.iconst 0, 1) := by decide +kernel
theorem dX7_rowsLeadingTo_28 : decode cX7_rowsLeadingTo 28 = .ok (.istore 6, 2) := by decide +kernel
theorem dX7_rowsLeadingTo_30 : decode cX7_rowsLeadingTo 30 = .ok (.iload 6, 2) := by decide +kernel
theorem dX7_rowsLeadingTo_32 : decode cX7_rowsLeadingTo 32 = .ok (.iconst 1, 1) := by decide +kernel
theorem dX7_rowsLeadingTo_33 : decode cX7_rowsLeadingTo 33 = .ok (.iadd, 1) := by decide +kernel
theorem dX7_rowsLeadingTo_34 : decode cX7_rowsLeadingTo 34 = .ok (.aload_n 0, 1) := by decide +kernel
theorem dX7_rowsLeadingTo_35 : decode cX7_rowsLeadingTo 35 = .ok (.getfield 10, 3) := by decide +kernel
theorem dX7_rowsLeadingTo_38 : decode cX7_rowsLeadingTo 38 = .ok (.getfield 110, 3) := by decide +kernel
theorem dX7_rowsLeadingTo_41 : decode cX7_rowsLeadingTo 41 = .ok (.if_icmp .ge 70, 3) := by decide +kernel
theorem dX7_rowsLeadingTo_44 : decode cX7_rowsLeadingTo 44 = .ok (.iload 4, 2) := by decide +kernel
theorem dX7_rowsLeadingTo_46 : decode cX7_rowsLeadingTo 46 = .ok (.ifCond .eq 17, 3) := by decide +kernel
theorem dX7_rowsLeadingTo_49 : decode cX7_rowsLeadingTo 49 = .ok (.aload_n 0, 1) := by decide +kernel
theorem dX7_rowsLeadingTo_50 : decode cX7_rowsLeadingTo 50 = .ok (.iload 6, 2) := by decide +kernel
theorem dX7_rowsLeadingTo_52 : decode cX7_rowsLeadingTo 52 = .ok (.iload_n 2, 1) := by decide +kernel
theorem dX7_rowsLeadingTo_53 : decode cX7_rowsLeadingTo 53 = .ok (.invokevirtual 337, 3) := by decide +kernel
theorem dX7_rowsLeadingTo_56 : decode cX7_rowsLeadingTo 56 = .ok (.ifCond .eq 7, 3) := by decide +kernel
theorem dX7_rowsLeadingTo_59 : decode cX7_rowsLeadingTo 59 = .ok (.iconst 1, 1) := by decide +kernel
theorem dX7_rowsLeadingTo_60 : decode cX7_rowsLeadingTo 60 = .ok (.goto 4, 3) := by decide +kernel
theorem dX7_rowsLeadingTo_63 : decode cX7_rowsLeadingTo 63 = .ok (.iconst 2, 1) := by decide +kernel
theorem dX7_rowsLeadingTo_64 : decode cX7_rowsLeadingTo 64 = .ok (.istore 7, 2) := by decide +kernel
theorem dX7_rowsLeadingTo_66 : decode cX7_rowsLeadingTo 66 = .ok (.aload_n 0, 1) := by decide +kernel
theorem dX7_rowsLeadingTo_67 : decode cX7_rowsLeadingTo 67 = .ok (.getfield 72, 3) := by decide +kernel
theorem dX7_rowsLeadingTo_70 : decode cX7_rowsLeadingTo 70 = .ok (.iload_n 2, 1) := by decide +kernel
theorem dX7_rowsLeadingTo_71 : decode cX7_rowsLeadingTo 71 = .ok (.iload 6, 2) := by decide +kernel
theorem dX7_rowsLeadingTo_73 : decode cX7_rowsLeadingTo 73 = .ok (.iastore, 1) := by decide +kernel
theorem dX7_rowsLeadingTo_74 : decode cX7_rowsLeadingTo 74 = .ok (.aload_n 0, 1) := by decide +kernel
theorem dX7_rowsLeadingTo_75 : decode cX7_rowsLeadingTo 75 = .ok (.iload 6, 2) := by decide +kernel
theorem dX7_rowsLeadingTo_77 : decode cX7_rowsLeadingTo 77 = .ok (.invokevirtual 340, 3) := by decide +kernel
theorem dX7_rowsLeadingTo_80 : decode cX7_rowsLeadingTo 80 = .ok (.iload 5, 2) := by decide +kernel
theorem dX7_rowsLeadingTo_82 : decode cX7_rowsLeadingTo 82 = .ok (.iload 7, 2) := by decide +kernel
theorem dX7_rowsLeadingTo_84 : decode cX7_rowsLeadingTo 84 = .ok (.aload_n 0, 1) := by decide +kernel
theorem dX7_rowsLeadingTo_85 : decode cX7_rowsLeadingTo 85 = .ok (.aload_n 1, 1) := by decide +kernel
theorem dX7_rowsLeadingTo_86 : decode cX7_rowsLeadingTo 86 = .ok (.iload_n 2, 1) := by decide +kernel
theorem dX7_rowsLeadingTo_87 : decode cX7_rowsLeadingTo 87 = .ok (.iconst 1, 1) := by decide +kernel
theorem dX7_rowsLeadingTo_88 : decode cX7_rowsLeadingTo 88 = .ok (.iadd, 1) := by decide +kernel
theorem dX7_rowsLeadingTo_89 : decode cX7_rowsLeadingTo 89 = .ok (.iload_n 3, 1) := by decide +kernel
theorem dX7_rowsLeadingTo_90 : decode cX7_rowsLeadingTo 90 = .ok (.iload 4, 2) := by decide +kernel
theorem dX7_rowsLeadingTo_92 : decode cX7_rowsLeadingTo 92 = .ok (.invokevirtual 231, 3) := by decide +kernel
theorem dX7_rowsLeadingTo_95 : decode cX7_rowsLeadingTo 95 = .ok (.imul, 1) := by decide +kernel
theorem dX7_rowsLeadingTo_96 : decode cX7_rowsLeadingTo 96 = .ok (.iadd, 1) := by decide +kernel
theorem dX7_rowsLeadingTo_97 : decode cX7_rowsLeadingTo 97 = .ok (.istore 5, 2) := by decide +kernel
theorem dX7_rowsLeadingTo_99 : decode cX7_rowsLeadingTo 99 = .ok (.aload_n 0, 1) := by decide +kernel
theorem dX7_rowsLeadingTo_100 : decode cX7_rowsLeadingTo 100 = .ok (.iload 6, 2) := by decide +kernel
theorem dX7_rowsLeadingTo_102 : decode cX7_rowsLeadingTo 102 = .ok (.invokevirtual 340, 3) := by decide +kernel
theorem dX7_rowsLeadingTo_105 : decode cX7_rowsLeadingTo 105 = .ok (.iinc 6 1, 3) := by decide +kernel
theorem dX7_rowsLeadingTo_108 : decode cX7_rowsLeadingTo 108 = .ok (.goto (-78), 3) := by decide +kernel
theorem dX7_rowsLeadingTo_111 : decode cX7_rowsLeadingTo 111 = .ok (.iload 5, 2) := by decide +kernel
theorem dX7_rowsLeadingTo_113 : decode cX7_rowsLeadingTo 113 = .ok (.ireturn, 1) := by decide +kernel
theorem dX7_wouldMeetItsPlace_0 : decode cX7_wouldMeetItsPlace 0 = .ok (.iload_n 2, 1) := by decide +kernel
theorem dX7_wouldMeetItsPlace_1 : decode cX7_wouldMeetItsPlace 1 = .ok (.iconst 4, 1) := by decide +kernel
theorem dX7_wouldMeetItsPlace_2 : decode cX7_wouldMeetItsPlace 2 = .ok (.invokestatic 184, 3) := by decide +kernel
theorem dX7_wouldMeetItsPlace_5 : decode cX7_wouldMeetItsPlace 5 = .ok (.iconst 1, 1) := by decide +kernel
theorem dX7_wouldMeetItsPlace_6 : decode cX7_wouldMeetItsPlace 6 = .ok (.isub, 1) := by decide +kernel
theorem dX7_wouldMeetItsPlace_7 : decode cX7_wouldMeetItsPlace 7 = .ok (.istore_n 3, 1) := by decide +kernel
theorem dX7_wouldMeetItsPlace_8 : decode cX7_wouldMeetItsPlace 8 = .ok (.iload_n 3, 1) := by decide +kernel
theorem dX7_wouldMeetItsPlace_9 : decode cX7_wouldMeetItsPlace 9 = .ok (.ifCond .lt 40, 3) := by decide +kernel
theorem dX7_wouldMeetItsPlace_12 : decode cX7_wouldMeetItsPlace 12 = .ok (.aload_n 0, 1) := by decide +kernel
theorem dX7_wouldMeetItsPlace_13 : decode cX7_wouldMeetItsPlace 13 = .ok (.getfield 72, 3) := by decide +kernel
theorem dX7_wouldMeetItsPlace_16 : decode cX7_wouldMeetItsPlace 16 = .ok (.iload_n 3, 1) := by decide +kernel
theorem dX7_wouldMeetItsPlace_17 : decode cX7_wouldMeetItsPlace 17 = .ok (.iaload, 1) := by decide +kernel
theorem dX7_wouldMeetItsPlace_18 : decode cX7_wouldMeetItsPlace 18 = .ok (.iload_n 1, 1) := by decide +kernel
theorem dX7_wouldMeetItsPlace_19 : decode cX7_wouldMeetItsPlace 19 = .ok (.isub, 1) := by decide +kernel
theorem dX7_wouldMeetItsPlace_20 : decode cX7_wouldMeetItsPlace 20 = .ok (.invokestatic 306, 3) := by decide +kernel
theorem dX7_wouldMeetItsPlace_23 : decode cX7_wouldMeetItsPlace 23 = .ok (.iconst 2, 1) := by decide +kernel
theorem dX7_wouldMeetItsPlace_24 : decode cX7_wouldMeetItsPlace 24 = .ok (.if_icmp .ge 19, 3) := by decide +kernel
theorem dX7_wouldMeetItsPlace_27 : decode cX7_wouldMeetItsPlace 27 = .ok (.aload_n 0, 1) := by decide +kernel
theorem dX7_wouldMeetItsPlace_28 : decode cX7_wouldMeetItsPlace 28 = .ok (.getfield 72, 3) := by decide +kernel
theorem dX7_wouldMeetItsPlace_31 : decode cX7_wouldMeetItsPlace 31 = .ok (.iload_n 3, 1) := by decide +kernel
theorem dX7_wouldMeetItsPlace_32 : decode cX7_wouldMeetItsPlace 32 = .ok (.iaload, 1) := by decide +kernel
theorem dX7_wouldMeetItsPlace_33 : decode cX7_wouldMeetItsPlace 33 = .ok (.iload_n 1, 1) := by decide +kernel
theorem dX7_wouldMeetItsPlace_34 : decode cX7_wouldMeetItsPlace 34 = .ok (.if_icmp .ne 7, 3) := by decide +kernel
theorem dX7_wouldMeetItsPlace_37 : decode cX7_wouldMeetItsPlace 37 = .ok (.iconst 1, 1) := by decide +kernel
theorem dX7_wouldMeetItsPlace_38 : decode cX7_wouldMeetItsPlace 38 = .ok (.goto 4, 3) := by decide +kernel
theorem dX7_wouldMeetItsPlace_41 : decode cX7_wouldMeetItsPlace 41 = .ok (.iconst 0, 1) := by decide +kernel
theorem dX7_wouldMeetItsPlace_42 : decode cX7_wouldMeetItsPlace 42 = .ok (.ireturn, 1) := by decide +kernel
theorem dX7_wouldMeetItsPlace_43 : decode cX7_wouldMeetItsPlace 43 = .ok (.iinc 3 (-1), 3) := by decide +kernel
theorem dX7_wouldMeetItsPlace_46 : decode cX7_wouldMeetItsPlace 46 = .ok (.goto (-38), 3) := by decide +kernel
theorem dX7_wouldMeetItsPlace_49 : decode cX7_wouldMeetItsPlace 49 = .ok (.iconst 0, 1) := by decide +kernel
theorem dX7_wouldMeetItsPlace_50 : decode cX7_wouldMeetItsPlace 50 = .ok (.ireturn, 1) := by decide +kernel
theorem dX7_isTrialOrder_0 : decode cX7_isTrialOrder 0 = .ok (.iconst 0, 1) := by decide +kernel
theorem dX7_isTrialOrder_1 : decode cX7_isTrialOrder 1 = .ok (.istore_n 2, 1) := by decide +kernel
theorem dX7_isTrialOrder_2 : decode cX7_isTrialOrder 2 = .ok (.iload_n 2, 1) := by decide +kernel
theorem dX7_isTrialOrder_3 : decode cX7_isTrialOrder 3 = .ok (.aload_n 0, 1) := by decide +kernel
theorem dX7_isTrialOrder_4 : decode cX7_isTrialOrder 4 = .ok (.getfield 10, 3) := by decide +kernel
theorem dX7_isTrialOrder_7 : decode cX7_isTrialOrder 7 = .ok (.getfield 110, 3) := by decide +kernel
theorem dX7_isTrialOrder_10 : decode cX7_isTrialOrder 10 = .ok (.if_icmp .ge 26, 3) := by decide +kernel
theorem dX7_isTrialOrder_13 : decode cX7_isTrialOrder 13 = .ok (.aload_n 0, 1) := by decide +kernel
theorem dX7_isTrialOrder_14 : decode cX7_isTrialOrder 14 = .ok (.getfield 69, 3) := by decide +kernel
theorem dX7_isTrialOrder_17 : decode cX7_isTrialOrder 17 = .ok (.iload_n 2, 1) := by decide +kernel
theorem dX7_isTrialOrder_18 : decode cX7_isTrialOrder 18 = .ok (.iaload, 1) := by decide +kernel
theorem dX7_isTrialOrder_19 : decode cX7_isTrialOrder 19 = .ok (.aload_n 1, 1) := by decide +kernel
theorem dX7_isTrialOrder_20 : decode cX7_isTrialOrder 20 = .ok (.getfield 219, 3) := by decide +kernel
theorem dX7_isTrialOrder_23 : decode cX7_isTrialOrder 23 = .ok (.iload_n 2, 1) := by decide +kernel
theorem dX7_isTrialOrder_24 : decode cX7_isTrialOrder 24 = .ok (.iaload, 1) := by decide +kernel
theorem dX7_isTrialOrder_25 : decode cX7_isTrialOrder 25 = .ok (.if_icmp .eq 5, 3) := by decide +kernel
theorem dX7_isTrialOrder_28 : decode cX7_isTrialOrder 28 = .ok (.iconst 0, 1) := by decide +kernel
theorem dX7_isTrialOrder_29 : decode cX7_isTrialOrder 29 = .ok (.ireturn, 1) := by decide +kernel
theorem dX7_isTrialOrder_30 : decode cX7_isTrialOrder 30 = .ok (.iinc 2 1, 3) := by decide +kernel
theorem dX7_isTrialOrder_33 : decode cX7_isTrialOrder 33 = .ok (.goto (-31), 3) := by decide +kernel
theorem dX7_isTrialOrder_36 : decode cX7_isTrialOrder 36 = .ok (.iconst 1, 1) := by decide +kernel
theorem dX7_isTrialOrder_37 : decode cX7_isTrialOrder 37 = .ok (.ireturn, 1) := by decide +kernel
theorem dX7_changeTrial_0 : decode cX7_changeTrial 0 = .ok (.aload_n 0, 1) := by decide +kernel
theorem dX7_changeTrial_1 : decode cX7_changeTrial 1 = .ok (.getfield 69, 3) := by decide +kernel
theorem dX7_changeTrial_4 : decode cX7_changeTrial 4 = .ok (.iload_n 1, 1) := by decide +kernel
theorem dX7_changeTrial_5 : decode cX7_changeTrial 5 = .ok (.iaload, 1) := by decide +kernel
theorem dX7_changeTrial_6 : decode cX7_changeTrial 6 = .ok (.istore_n 2, 1) := by decide +kernel
theorem dX7_changeTrial_7 : decode cX7_changeTrial 7 = .ok (.aload_n 0, 1) := by decide +kernel
theorem dX7_changeTrial_8 : decode cX7_changeTrial 8 = .ok (.getfield 69, 3) := by decide +kernel
theorem dX7_changeTrial_11 : decode cX7_changeTrial 11 = .ok (.iload_n 1, 1) := by decide +kernel
theorem dX7_changeTrial_12 : decode cX7_changeTrial 12 = .ok (.aload_n 0, 1) := by decide +kernel
theorem dX7_changeTrial_13 : decode cX7_changeTrial 13 = .ok (.getfield 69, 3) := by decide +kernel
theorem dX7_changeTrial_16 : decode cX7_changeTrial 16 = .ok (.iload_n 1, 1) := by decide +kernel
theorem dX7_changeTrial_17 : decode cX7_changeTrial 17 = .ok (.iconst 1, 1) := by decide +kernel
theorem dX7_changeTrial_18 : decode cX7_changeTrial 18 = .ok (.iadd, 1) := by decide +kernel
theorem dX7_changeTrial_19 : decode cX7_changeTrial 19 = .ok (.iaload, 1) := by decide +kernel
theorem dX7_changeTrial_20 : decode cX7_changeTrial 20 = .ok (.iastore, 1) := by decide +kernel
theorem dX7_changeTrial_21 : decode cX7_changeTrial 21 = .ok (.aload_n 0, 1) := by decide +kernel
theorem dX7_changeTrial_22 : decode cX7_changeTrial 22 = .ok (.getfield 69, 3) := by decide +kernel
theorem dX7_changeTrial_25 : decode cX7_changeTrial 25 = .ok (.iload_n 1, 1) := by decide +kernel
theorem dX7_changeTrial_26 : decode cX7_changeTrial 26 = .ok (.iconst 1, 1) := by decide +kernel
theorem dX7_changeTrial_27 : decode cX7_changeTrial 27 = .ok (.iadd, 1) := by decide +kernel
theorem dX7_changeTrial_28 : decode cX7_changeTrial 28 = .ok (.iload_n 2, 1) := by decide +kernel
theorem dX7_changeTrial_29 : decode cX7_changeTrial 29 = .ok (.iastore, 1) := by decide +kernel
theorem dX7_changeTrial_30 : decode cX7_changeTrial 30 = .ok (.return_, 1) := by decide +kernel
theorem dX7_dogsOnRight_0 : decode cX7_dogsOnRight 0 = .ok (.iconst 0, 1) := by decide +kernel
theorem dX7_dogsOnRight_1 : decode cX7_dogsOnRight 1 = .ok (.istore_n 2, 1) := by decide +kernel
theorem dX7_dogsOnRight_2 : decode cX7_dogsOnRight 2 = .ok (.iconst 0, 1) := by decide +kernel
theorem dX7_dogsOnRight_3 : decode cX7_dogsOnRight 3 = .ok (.istore_n 3, 1) := by decide +kernel
theorem dX7_dogsOnRight_4 : decode cX7_dogsOnRight 4 = .ok (.iload_n 3, 1) := by decide +kernel
theorem dX7_dogsOnRight_5 : decode cX7_dogsOnRight 5 = .ok (.aload_n 0, 1) := by decide +kernel
theorem dX7_dogsOnRight_6 : decode cX7_dogsOnRight 6 = .ok (.getfield 10, 3) := by decide +kernel
theorem dX7_dogsOnRight_9 : decode cX7_dogsOnRight 9 = .ok (.getfield 110, 3) := by decide +kernel
theorem dX7_dogsOnRight_12 : decode cX7_dogsOnRight 12 = .ok (.if_icmp .ge 45, 3) := by decide +kernel
theorem dX7_dogsOnRight_15 : decode cX7_dogsOnRight 15 = .ok (.aload_n 0, 1) := by decide +kernel
theorem dX7_dogsOnRight_16 : decode cX7_dogsOnRight 16 = .ok (.getfield 10, 3) := by decide +kernel
theorem dX7_dogsOnRight_19 : decode cX7_dogsOnRight 19 = .ok (.aload_n 0, 1) := by decide +kernel
theorem dX7_dogsOnRight_20 : decode cX7_dogsOnRight 20 = .ok (.getfield 10, 3) := by decide +kernel
theorem dX7_dogsOnRight_23 : decode cX7_dogsOnRight 23 = .ok (.getfield 152, 3) := by decide +kernel
theorem dX7_dogsOnRight_26 : decode cX7_dogsOnRight 26 = .ok (.iload_n 3, 1) := by decide +kernel
theorem dX7_dogsOnRight_27 : decode cX7_dogsOnRight 27 = .ok (.iaload, 1) := by decide +kernel
theorem dX7_dogsOnRight_28 : decode cX7_dogsOnRight 28 = .ok (.iload_n 3, 1) := by decide +kernel
theorem dX7_dogsOnRight_29 : decode cX7_dogsOnRight 29 = .ok (.iload_n 1, 1) := by decide +kernel
theorem dX7_dogsOnRight_30 : decode cX7_dogsOnRight 30 = .ok (.invokevirtual 343, 3) := by decide +kernel
theorem dX7_dogsOnRight_33 : decode cX7_dogsOnRight 33 = .ok (.ifCond .eq 18, 3) := by decide +kernel
theorem dX7_dogsOnRight_36 : decode cX7_dogsOnRight 36 = .ok (.iload_n 2, 1) := by decide +kernel
theorem dX7_dogsOnRight_37 : decode cX7_dogsOnRight 37 = .ok (.aload_n 0, 1) := by decide +kernel
theorem dX7_dogsOnRight_38 : decode cX7_dogsOnRight 38 = .ok (.getfield 10, 3) := by decide +kernel
theorem dX7_dogsOnRight_41 : decode cX7_dogsOnRight 41 = .ok (.getfield 152, 3) := by decide +kernel
theorem dX7_dogsOnRight_44 : decode cX7_dogsOnRight 44 = .ok (.iload_n 3, 1) := by decide +kernel
theorem dX7_dogsOnRight_45 : decode cX7_dogsOnRight 45 = .ok (.iaload, 1) := by decide +kernel
theorem dX7_dogsOnRight_46 : decode cX7_dogsOnRight 46 = .ok (.invokestatic 178, 3) := by decide +kernel
theorem dX7_dogsOnRight_49 : decode cX7_dogsOnRight 49 = .ok (.ior, 1) := by decide +kernel
theorem dX7_dogsOnRight_50 : decode cX7_dogsOnRight 50 = .ok (.istore_n 2, 1) := by decide +kernel
theorem dX7_dogsOnRight_51 : decode cX7_dogsOnRight 51 = .ok (.iinc 3 1, 3) := by decide +kernel
theorem dX7_dogsOnRight_54 : decode cX7_dogsOnRight 54 = .ok (.goto (-50), 3) := by decide +kernel
theorem dX7_dogsOnRight_57 : decode cX7_dogsOnRight 57 = .ok (.iload_n 2, 1) := by decide +kernel
theorem dX7_dogsOnRight_58 : decode cX7_dogsOnRight 58 = .ok (.ireturn, 1) := by decide +kernel
theorem dX7_woundAt_0 : decode cX7_woundAt 0 = .ok (.iconst 0, 1) := by decide +kernel
theorem dX7_woundAt_1 : decode cX7_woundAt 1 = .ok (.istore_n 2, 1) := by decide +kernel
theorem dX7_woundAt_2 : decode cX7_woundAt 2 = .ok (.iconst 0, 1) := by decide +kernel
theorem dX7_woundAt_3 : decode cX7_woundAt 3 = .ok (.istore_n 3, 1) := by decide +kernel
theorem dX7_woundAt_4 : decode cX7_woundAt 4 = .ok (.iconst 0, 1) := by decide +kernel
theorem dX7_woundAt_5 : decode cX7_woundAt 5 = .ok (.istore 4, 2) := by decide +kernel
theorem dX7_woundAt_7 : decode cX7_woundAt 7 = .ok (.iload 4, 2) := by decide +kernel
theorem dX7_woundAt_9 : decode cX7_woundAt 9 = .ok (.aload_n 0, 1) := by decide +kernel
theorem dX7_woundAt_10 : decode cX7_woundAt 10 = .ok (.getfield 10, 3) := by decide +kernel
theorem dX7_woundAt_13 : decode cX7_woundAt 13 = .ok (.getfield 110, 3) := by decide +kernel
theorem dX7_woundAt_16 : decode cX7_woundAt 16 = .ok (.if_icmp .ge 42, 3) := by decide +kernel
theorem dX7_woundAt_19 : decode cX7_woundAt 19 = .ok (.aload_n 0, 1) := by decide +kernel
theorem dX7_woundAt_20 : decode cX7_woundAt 20 = .ok (.getfield 10, 3) := by decide +kernel
theorem dX7_woundAt_23 : decode cX7_woundAt 23 = .ok (.aload_n 0, 1) := by decide +kernel
theorem dX7_woundAt_24 : decode cX7_woundAt 24 = .ok (.getfield 10, 3) := by decide +kernel
theorem dX7_woundAt_27 : decode cX7_woundAt 27 = .ok (.getfield 152, 3) := by decide +kernel
theorem dX7_woundAt_30 : decode cX7_woundAt 30 = .ok (.iload 4, 2) := by decide +kernel
theorem dX7_woundAt_32 : decode cX7_woundAt 32 = .ok (.iaload, 1) := by decide +kernel
theorem dX7_woundAt_33 : decode cX7_woundAt 33 = .ok (.iload 4, 2) := by decide +kernel
theorem dX7_woundAt_35 : decode cX7_woundAt 35 = .ok (.iload_n 1, 1) := by decide +kernel
theorem dX7_woundAt_36 : decode cX7_woundAt 36 = .ok (.invokevirtual 343, 3) := by decide +kernel
theorem dX7_woundAt_39 : decode cX7_woundAt 39 = .ok (.ifCond .eq 9, 3) := by decide +kernel
theorem dX7_woundAt_42 : decode cX7_woundAt 42 = .ok (.iinc 3 1, 3) := by decide +kernel
theorem dX7_woundAt_45 : decode cX7_woundAt 45 = .ok (.goto 7, 3) := by decide +kernel
theorem dX7_woundAt_48 : decode cX7_woundAt 48 = .ok (.iload_n 2, 1) := by decide +kernel
theorem dX7_woundAt_49 : decode cX7_woundAt 49 = .ok (.iload_n 3, 1) := by decide +kernel
theorem dX7_woundAt_50 : decode cX7_woundAt 50 = .ok (.iadd, 1) := by decide +kernel
theorem dX7_woundAt_51 : decode cX7_woundAt 51 = .ok (.istore_n 2, 1) := by decide +kernel
theorem dX7_woundAt_52 : decode cX7_woundAt 52 = .ok (.iinc 4 1, 3) := by decide +kernel
theorem dX7_woundAt_55 : decode cX7_woundAt 55 = .ok (.goto (-48), 3) := by decide +kernel
theorem dX7_woundAt_58 : decode cX7_woundAt 58 = .ok (.iload_n 2, 1) := by decide +kernel
theorem dX7_woundAt_59 : decode cX7_woundAt 59 = .ok (.ireturn, 1) := by decide +kernel
theorem dX7_pullsTogether_0 : decode cX7_pullsTogether 0 = .ok (.iconst 0, 1) := by decide +kernel
theorem dX7_pullsTogether_1 : decode cX7_pullsTogether 1 = .ok (.istore_n 2, 1) := by decide +kernel
theorem dX7_pullsTogether_2 : decode cX7_pullsTogether 2 = .ok (.iconst 0, 1) := by decide +kernel
theorem dX7_pullsTogether_3 : decode cX7_pullsTogether 3 = .ok (.istore_n 3, 1) := by decide +kernel
theorem dX7_pullsTogether_4 : decode cX7_pullsTogether 4 = .ok (.iload_n 3, 1) := by decide +kernel
theorem dX7_pullsTogether_5 : decode cX7_pullsTogether 5 = .ok (.aload_n 0, 1) := by decide +kernel
theorem dX7_pullsTogether_6 : decode cX7_pullsTogether 6 = .ok (.getfield 10, 3) := by decide +kernel
theorem dX7_pullsTogether_9 : decode cX7_pullsTogether 9 = .ok (.getfield 110, 3) := by decide +kernel
theorem dX7_pullsTogether_12 : decode cX7_pullsTogether 12 = .ok (.if_icmp .ge 57, 3) := by decide +kernel
theorem dX7_pullsTogether_15 : decode cX7_pullsTogether 15 = .ok (.aload_n 0, 1) := by decide +kernel
theorem dX7_pullsTogether_16 : decode cX7_pullsTogether 16 = .ok (.getfield 10, 3) := by decide +kernel
theorem dX7_pullsTogether_19 : decode cX7_pullsTogether 19 = .ok (.getfield 152, 3) := by decide +kernel
theorem dX7_pullsTogether_22 : decode cX7_pullsTogether 22 = .ok (.iload_n 3, 1) := by decide +kernel
theorem dX7_pullsTogether_23 : decode cX7_pullsTogether 23 = .ok (.iaload, 1) := by decide +kernel
theorem dX7_pullsTogether_24 : decode cX7_pullsTogether 24 = .ok (.istore 4, 2) := by decide +kernel
theorem dX7_pullsTogether_26 : decode cX7_pullsTogether 26 = .ok (.aload_n 0, 1) := by decide +kernel
theorem dX7_pullsTogether_27 : decode cX7_pullsTogether 27 = .ok (.getfield 10, 3) := by decide +kernel
theorem dX7_pullsTogether_30 : decode cX7_pullsTogether 30 = .ok (.iload 4, 2) := by decide +kernel
theorem dX7_pullsTogether_32 : decode cX7_pullsTogether 32 = .ok (.iload_n 3, 1) := by decide +kernel
theorem dX7_pullsTogether_33 : decode cX7_pullsTogether 33 = .ok (.invokevirtual 139, 3) := by decide +kernel
theorem dX7_pullsTogether_36 : decode cX7_pullsTogether 36 = .ok (.istore 5, 2) := by decide +kernel
theorem dX7_pullsTogether_38 : decode cX7_pullsTogether 38 = .ok (.iload_n 2, 1) := by decide +kernel
theorem dX7_pullsTogether_39 : decode cX7_pullsTogether 39 = .ok (.aload_n 0, 1) := by decide +kernel
theorem dX7_pullsTogether_40 : decode cX7_pullsTogether 40 = .ok (.getfield 10, 3) := by decide +kernel
theorem dX7_pullsTogether_43 : decode cX7_pullsTogether 43 = .ok (.iload 4, 2) := by decide +kernel
theorem dX7_pullsTogether_45 : decode cX7_pullsTogether 45 = .ok (.iload_n 3, 1) := by decide +kernel
theorem dX7_pullsTogether_46 : decode cX7_pullsTogether 46 = .ok (.iload_n 1, 1) := by decide +kernel
theorem dX7_pullsTogether_47 : decode cX7_pullsTogether 47 = .ok (.invokevirtual 343, 3) := by decide +kernel
theorem dX7_pullsTogether_50 : decode cX7_pullsTogether 50 = .ok (.ifCond .eq 8, 3) := by decide +kernel
theorem dX7_pullsTogether_53 : decode cX7_pullsTogether 53 = .ok (.iload 5, 2) := by decide +kernel
theorem dX7_pullsTogether_55 : decode cX7_pullsTogether 55 = .ok (.goto 6, 3) := by decide +kernel
theorem dX7_pullsTogether_58 : decode cX7_pullsTogether 58 = .ok (.iload 5, 2) := by decide +kernel
theorem dX7_pullsTogether_60 : decode cX7_pullsTogether 60 = .ok (.ineg, 1) := by decide +kernel
theorem dX7_pullsTogether_61 : decode cX7_pullsTogether 61 = .ok (.iadd, 1) := by decide +kernel
theorem dX7_pullsTogether_62 : decode cX7_pullsTogether 62 = .ok (.istore_n 2, 1) := by decide +kernel
theorem dX7_pullsTogether_63 : decode cX7_pullsTogether 63 = .ok (.iinc 3 1, 3) := by decide +kernel
theorem dX7_pullsTogether_66 : decode cX7_pullsTogether 66 = .ok (.goto (-62), 3) := by decide +kernel
theorem dX7_pullsTogether_69 : decode cX7_pullsTogether 69 = .ok (.iload_n 2, 1) := by decide +kernel
theorem dX7_pullsTogether_70 : decode cX7_pullsTogether 70 = .ok (.ireturn, 1) := by decide +kernel
