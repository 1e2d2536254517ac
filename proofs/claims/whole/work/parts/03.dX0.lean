theorem dX0_init_0 : decode cX0_init 0 = .ok (.aload_n 0, 1) := by decide +kernel
theorem dX0_init_1 : decode cX0_init 1 = .ok (.invokespecial 3, 3) := by decide +kernel
theorem dX0_init_4 : decode cX0_init 4 = .ok (.aload_n 0, 1) := by decide +kernel
theorem dX0_init_5 : decode cX0_init 5 = .ok (.aload_n 1, 1) := by decide +kernel
theorem dX0_init_6 : decode cX0_init 6 = .ok (.putfield 9, 3) := by decide +kernel
theorem dX0_init_9 : decode cX0_init 9 = .ok (.aload_n 0, 1) := by decide +kernel
theorem dX0_init_10 : decode cX0_init 10 = .ok (.iconst 4, 1) := by decide +kernel
theorem dX0_init_11 : decode cX0_init 11 = .ok (.newarray .int, 2) := by decide +kernel
theorem dX0_init_13 : decode cX0_init 13 = .ok (.putfield 15, 3) := by decide +kernel
theorem dX0_init_16 : decode cX0_init 16 = .ok (.aload_n 0, 1) := by decide +kernel
theorem dX0_init_17 : decode cX0_init 17 = .ok (.iconst 4, 1) := by decide +kernel
theorem dX0_init_18 : decode cX0_init 18 = .ok (.newarray .int, 2) := by decide +kernel
theorem dX0_init_20 : decode cX0_init 20 = .ok (.putfield 19, 3) := by decide +kernel
theorem dX0_init_23 : decode cX0_init 23 = .ok (.aload_n 0, 1) := by decide +kernel
theorem dX0_init_24 : decode cX0_init 24 = .ok (.bipush 24, 2) := by decide +kernel
theorem dX0_init_26 : decode cX0_init 26 = .ok (.newarray .int, 2) := by decide +kernel
theorem dX0_init_28 : decode cX0_init 28 = .ok (.putfield 22, 3) := by decide +kernel
theorem dX0_init_31 : decode cX0_init 31 = .ok (.aload_n 0, 1) := by decide +kernel
theorem dX0_init_32 : decode cX0_init 32 = .ok (.bipush 24, 2) := by decide +kernel
theorem dX0_init_34 : decode cX0_init 34 = .ok (.newarray .int, 2) := by decide +kernel
theorem dX0_init_36 : decode cX0_init 36 = .ok (.putfield 25, 3) := by decide +kernel
theorem dX0_init_39 : decode cX0_init 39 = .ok (.aload_n 0, 1) := by decide +kernel
theorem dX0_init_40 : decode cX0_init 40 = .ok (.bipush 24, 2) := by decide +kernel
theorem dX0_init_42 : decode cX0_init 42 = .ok (.newarray .int, 2) := by decide +kernel
theorem dX0_init_44 : decode cX0_init 44 = .ok (.putfield 28, 3) := by decide +kernel
theorem dX0_init_47 : decode cX0_init 47 = .ok (.aload_n 0, 1) := by decide +kernel
theorem dX0_init_48 : decode cX0_init 48 = .ok (.bipush 24, 2) := by decide +kernel
theorem dX0_init_50 : decode cX0_init 50 = .ok (.newarray .int, 2) := by decide +kernel
theorem dX0_init_52 : decode cX0_init 52 = .ok (.putfield 31, 3) := by decide +kernel
theorem dX0_init_55 : decode cX0_init 55 = .ok (.aload_n 0, 1) := by decide +kernel
theorem dX0_init_56 : decode cX0_init 56 = .ok (.bipush 20, 2) := by decide +kernel
theorem dX0_init_58 : decode cX0_init 58 = .ok (.newarray .int, 2) := by decide +kernel
theorem dX0_init_60 : decode cX0_init 60 = .ok (.putfield 34, 3) := by decide +kernel
theorem dX0_init_63 : decode cX0_init 63 = .ok (.aload_n 0, 1) := by decide +kernel
theorem dX0_init_64 : decode cX0_init 64 = .ok (.bipush 20, 2) := by decide +kernel
theorem dX0_init_66 : decode cX0_init 66 = .ok (.newarray .int, 2) := by decide +kernel
theorem dX0_init_68 : decode cX0_init 68 = .ok (.putfield 37, 3) := by decide +kernel
theorem dX0_init_71 : decode cX0_init 71 = .ok (.aload_n 0, 1) := by decide +kernel
theorem dX0_init_72 : decode cX0_init 72 = .ok (.bipush 20, 2) := by decide +kernel
theorem dX0_init_74 : decode cX0_init 74 = .ok (.newarray .int, 2) := by decide +kernel
theorem dX0_init_76 : decode cX0_init 76 = .ok (.putfield 40, 3) := by decide +kernel
theorem dX0_init_79 : decode cX0_init 79 = .ok (.aload_n 0, 1) := by decide +kernel
theorem dX0_init_80 : decode cX0_init 80 = .ok (.bipush 20, 2) := by decide +kernel
theorem dX0_init_82 : decode cX0_init 82 = .ok (.newarray .int, 2) := by decide +kernel
theorem dX0_init_84 : decode cX0_init 84 = .ok (.putfield 43, 3) := by decide +kernel
theorem dX0_init_87 : decode cX0_init 87 = .ok (.aload_n 0, 1) := by decide +kernel
theorem dX0_init_88 : decode cX0_init 88 = .ok (.bipush 20, 2) := by decide +kernel
theorem dX0_init_90 : decode cX0_init 90 = .ok (.newarray .int, 2) := by decide +kernel
theorem dX0_init_92 : decode cX0_init 92 = .ok (.putfield 46, 3) := by decide +kernel
theorem dX0_init_95 : decode cX0_init 95 = .ok (.aload_n 0, 1) := by decide +kernel
theorem dX0_init_96 : decode cX0_init 96 = .ok (.bipush 20, 2) := by decide +kernel
theorem dX0_init_98 : decode cX0_init 98 = .ok (.newarray .int, 2) := by decide +kernel
theorem dX0_init_100 : decode cX0_init 100 = .ok (.putfield 49, 3) := by decide +kernel
theorem dX0_init_103 : decode cX0_init 103 = .ok (.aload_n 0, 1) := by decide +kernel
theorem dX0_init_104 : decode cX0_init 104 = .ok (.bipush 20, 2) := by decide +kernel
theorem dX0_init_106 : decode cX0_init 106 = .ok (.newarray .int, 2) := by decide +kernel
theorem dX0_init_108 : decode cX0_init 108 = .ok (.putfield 52, 3) := by decide +kernel
theorem dX0_init_111 : decode cX0_init 111 = .ok (.return_, 1) := by decide +kernel
theorem dX0_startAnew_0 : decode cX0_startAnew 0 = .ok (.aload_n 0, 1) := by decide +kernel
theorem dX0_startAnew_1 : decode cX0_startAnew 1 = .ok (.aload_n 1, 1) := by decide +kernel
theorem dX0_startAnew_2 : decode cX0_startAnew 2 = .ok (.putfield 9, 3) := by decide +kernel
theorem dX0_startAnew_5 : decode cX0_startAnew 5 = .ok (.aload_n 0, 1) := by decide +kernel
theorem dX0_startAnew_6 : decode cX0_startAnew 6 = .ok (.iconst 0, 1) := by decide +kernel
theorem dX0_startAnew_7 : decode cX0_startAnew 7 = .ok (.putfield 55, 3) := by decide +kernel
theorem dX0_startAnew_10 : decode cX0_startAnew 10 = .ok (.aload_n 0, 1) := by decide +kernel
theorem dX0_startAnew_11 : decode cX0_startAnew 11 = .ok (.getfield 15, 3) := by decide +kernel
theorem dX0_startAnew_14 : decode cX0_startAnew 14 = .ok (.iconst 0, 1) := by decide +kernel
theorem dX0_startAnew_15 : decode cX0_startAnew 15 = .ok (.invokestatic 59, 3) := by decide +kernel
theorem dX0_startAnew_18 : decode cX0_startAnew 18 = .ok (.aload_n 0, 1) := by decide +kernel
theorem dX0_startAnew_19 : decode cX0_startAnew 19 = .ok (.getfield 19, 3) := by decide +kernel
theorem dX0_startAnew_22 : decode cX0_startAnew 22 = .ok (.iconst 0, 1) := by decide +kernel
theorem dX0_startAnew_23 : decode cX0_startAnew 23 = .ok (.invokestatic 59, 3) := by decide +kernel
theorem dX0_startAnew_26 : decode cX0_startAnew 26 = .ok (.aload_n 0, 1) := by decide +kernel
theorem dX0_startAnew_27 : decode cX0_startAnew 27 = .ok (.iconst 0, 1) := by decide +kernel
theorem dX0_startAnew_28 : decode cX0_startAnew 28 = .ok (.putfield 65, 3) := by decide +kernel
theorem dX0_startAnew_31 : decode cX0_startAnew 31 = .ok (.aload_n 0, 1) := by decide +kernel
theorem dX0_startAnew_32 : decode cX0_startAnew 32 = .ok (.iconst 0, 1) := by decide +kernel
theorem dX0_startAnew_33 : decode cX0_startAnew 33 = .ok (.putfield 68, 3) := by decide +kernel
theorem dX0_startAnew_36 : decode cX0_startAnew 36 = .ok (.aload_n 0, 1) := by decide +kernel
theorem dX0_startAnew_37 : decode cX0_startAnew 37 = .ok (.iconst 0, 1) := by decide +kernel
theorem dX0_startAnew_38 : decode cX0_startAnew 38 = .ok (.putfield 71, 3) := by decide +kernel
theorem dX0_startAnew_41 : decode cX0_startAnew 41 = .ok (.return_, 1) := by decide +kernel
theorem dX0_copyFrom_0 : decode cX0_copyFrom 0 = .ok (.aload_n 0, 1) := by decide +kernel
theorem dX0_copyFrom_1 : decode cX0_copyFrom 1 = .ok (.aload_n 1, 1) := by decide +kernel
theorem dX0_copyFrom_2 : decode cX0_copyFrom 2 = .ok (.getfield 9, 3) := by decide +kernel
theorem dX0_copyFrom_5 : decode cX0_copyFrom 5 = .ok (.putfield 9, 3) := by decide +kernel
theorem dX0_copyFrom_8 : decode cX0_copyFrom 8 = .ok (.aload_n 0, 1) := by decide +kernel
theorem dX0_copyFrom_9 : decode cX0_copyFrom 9 = .ok (.aload_n 1, 1) := by decide +kernel
theorem dX0_copyFrom_10 : decode cX0_copyFrom 10 = .ok (.getfield 55, 3) := by decide +kernel
theorem dX0_copyFrom_13 : decode cX0_copyFrom 13 = .ok (.putfield 55, 3) := by decide +kernel
theorem dX0_copyFrom_16 : decode cX0_copyFrom 16 = .ok (.aload_n 0, 1) := by decide +kernel
theorem dX0_copyFrom_17 : decode cX0_copyFrom 17 = .ok (.aload_n 1, 1) := by decide +kernel
theorem dX0_copyFrom_18 : decode cX0_copyFrom 18 = .ok (.getfield 65, 3) := by decide +kernel
theorem dX0_copyFrom_21 : decode cX0_copyFrom 21 = .ok (.putfield 65, 3) := by decide +kernel
theorem dX0_copyFrom_24 : decode cX0_copyFrom 24 = .ok (.aload_n 0, 1) := by decide +kernel
theorem dX0_copyFrom_25 : decode cX0_copyFrom 25 = .ok (.aload_n 1, 1) := by decide +kernel
theorem dX0_copyFrom_26 : decode cX0_copyFrom 26 = .ok (.getfield 68, 3) := by decide +kernel
theorem dX0_copyFrom_29 : decode cX0_copyFrom 29 = .ok (.putfield 68, 3) := by decide +kernel
theorem dX0_copyFrom_32 : decode cX0_copyFrom 32 = .ok (.aload_n 0, 1) := by decide +kernel
theorem dX0_copyFrom_33 : decode cX0_copyFrom 33 = .ok (.aload_n 1, 1) := by decide +kernel
theorem dX0_copyFrom_34 : decode cX0_copyFrom 34 = .ok (.getfield 71, 3) := by decide +kernel
theorem dX0_copyFrom_37 : decode cX0_copyFrom 37 = .ok (.putfield 71, 3) := by decide +kernel
theorem dX0_copyFrom_40 : decode cX0_copyFrom 40 = .ok (.aload_n 1, 1) := by decide +kernel
theorem dX0_copyFrom_41 : decode cX0_copyFrom 41 = .ok (.getfield 15, 3) := by decide +kernel
theorem dX0_copyFrom_44 : decode cX0_copyFrom 44 = .ok (.iconst 0, 1) := by decide +kernel
theorem dX0_copyFrom_45 : decode cX0_copyFrom 45 = .ok (.aload_n 0, 1) := by decide +kernel
theorem dX0_copyFrom_46 : decode cX0_copyFrom 46 = .ok (.getfield 15, 3) := by decide +kernel
theorem dX0_copyFrom_49 : decode cX0_copyFrom 49 = .ok (.iconst 0, 1) := by decide +kernel
theorem dX0_copyFrom_50 : decode cX0_copyFrom 50 = .ok (.iconst 4, 1) := by decide +kernel
theorem dX0_copyFrom_51 : decode cX0_copyFrom 51 = .ok (.invokestatic 74, 3) := by decide +kernel
theorem dX0_copyFrom_54 : decode cX0_copyFrom 54 = .ok (.aload_n 1, 1) := by decide +kernel
theorem dX0_copyFrom_55 : decode cX0_copyFrom 55 = .ok (.getfield 19, 3) := by decide +kernel
theorem dX0_copyFrom_58 : decode cX0_copyFrom 58 = .ok (.iconst 0, 1) := by decide +kernel
theorem dX0_copyFrom_59 : decode cX0_copyFrom 59 = .ok (.aload_n 0, 1) := by decide +kernel
theorem dX0_copyFrom_60 : decode cX0_copyFrom 60 = .ok (.getfield 19, 3) := by decide +kernel
theorem dX0_copyFrom_63 : decode cX0_copyFrom 63 = .ok (.iconst 0, 1) := by decide +kernel
theorem dX0_copyFrom_64 : decode cX0_copyFrom 64 = .ok (.iconst 4, 1) := by decide +kernel
theorem dX0_copyFrom_65 : decode cX0_copyFrom 65 = .ok (.invokestatic 74, 3) := by decide +kernel
theorem dX0_copyFrom_68 : decode cX0_copyFrom 68 = .ok (.aload_n 1, 1) := by decide +kernel
theorem dX0_copyFrom_69 : decode cX0_copyFrom 69 = .ok (.getfield 22, 3) := by decide +kernel
theorem dX0_copyFrom_72 : decode cX0_copyFrom 72 = .ok (.iconst 0, 1) := by decide +kernel
theorem dX0_copyFrom_73 : decode cX0_copyFrom 73 = .ok (.aload_n 0, 1) := by decide +kernel
theorem dX0_copyFrom_74 : decode cX0_copyFrom 74 = .ok (.getfield 22, 3) := by decide +kernel
theorem dX0_copyFrom_77 : decode cX0_copyFrom 77 = .ok (.iconst 0, 1) := by decide +kernel
theorem dX0_copyFrom_78 : decode cX0_copyFrom 78 = .ok (.bipush 24, 2) := by decide +kernel
theorem dX0_copyFrom_80 : decode cX0_copyFrom 80 = .ok (.invokestatic 74, 3) := by decide +kernel
theorem dX0_copyFrom_83 : decode cX0_copyFrom 83 = .ok (.aload_n 1, 1) := by decide +kernel
theorem dX0_copyFrom_84 : decode cX0_copyFrom 84 = .ok (.getfield 25, 3) := by decide +kernel
theorem dX0_copyFrom_87 : decode cX0_copyFrom 87 = .ok (.iconst 0, 1) := by decide +kernel
theorem dX0_copyFrom_88 : decode cX0_copyFrom 88 = .ok (.aload_n 0, 1) := by decide +kernel
theorem dX0_copyFrom_89 : decode cX0_copyFrom 89 = .ok (.getfield 25, 3) := by decide +kernel
theorem dX0_copyFrom_92 : decode cX0_copyFrom 92 = .ok (.iconst 0, 1) := by decide +kernel
theorem dX0_copyFrom_93 : decode cX0_copyFrom 93 = .ok (.bipush 24, 2) := by decide +kernel
theorem dX0_copyFrom_95 : decode cX0_copyFrom 95 = .ok (.invokestatic 74, 3) := by decide +kernel
theorem dX0_copyFrom_98 : decode cX0_copyFrom 98 = .ok (.aload_n 1, 1) := by decide +kernel
theorem dX0_copyFrom_99 : decode cX0_copyFrom 99 = .ok (.getfield 28, 3) := by decide +kernel
theorem dX0_copyFrom_102 : decode cX0_copyFrom 102 = .ok (.iconst 0, 1) := by decide +kernel
theorem dX0_copyFrom_103 : decode cX0_copyFrom 103 = .ok (.aload_n 0, 1) := by decide +kernel
theorem dX0_copyFrom_104 : decode cX0_copyFrom 104 = .ok (.getfield 28, 3) := by decide +kernel
theorem dX0_copyFrom_107 : decode cX0_copyFrom 107 = .ok (.iconst 0, 1) := by decide +kernel
theorem dX0_copyFrom_108 : decode cX0_copyFrom 108 = .ok (.bipush 24, 2) := by decide +kernel
theorem dX0_copyFrom_110 : decode cX0_copyFrom 110 = .ok (.invokestatic 74, 3) := by decide +kernel
theorem dX0_copyFrom_113 : decode cX0_copyFrom 113 = .ok (.aload_n 1, 1) := by decide +kernel
theorem dX0_copyFrom_114 : decode cX0_copyFrom 114 = .ok (.getfield 31, 3) := by decide +kernel
theorem dX0_copyFrom_117 : decode cX0_copyFrom 117 = .ok (.iconst 0, 1) := by decide +kernel
theorem dX0_copyFrom_118 : decode cX0_copyFrom 118 = .ok (.aload_n 0, 1) := by decide +kernel
theorem dX0_copyFrom_119 : decode cX0_copyFrom 119 = .ok (.getfield 31, 3) := by decide +kernel
theorem dX0_copyFrom_122 : decode cX0_copyFrom 122 = .ok (.iconst 0, 1) := by decide +kernel
theorem dX0_copyFrom_123 : decode cX0_copyFrom 123 = .ok (.bipush 24, 2) := by decide +kernel
theorem dX0_copyFrom_125 : decode cX0_copyFrom 125 = .ok (.invokestatic 74, 3) := by decide +kernel
theorem dX0_copyFrom_128 : decode cX0_copyFrom 128 = .ok (.aload_n 1, 1) := by decide +kernel
theorem dX0_copyFrom_129 : decode cX0_copyFrom 129 = .ok (.getfield 34, 3) := by decide +kernel
theorem dX0_copyFrom_132 : decode cX0_copyFrom 132 = .ok (.iconst 0, 1) := by decide +kernel
theorem dX0_copyFrom_133 : decode cX0_copyFrom 133 = .ok (.aload_n 0, 1) := by decide +kernel
theorem dX0_copyFrom_134 : decode cX0_copyFrom 134 = .ok (.getfield 34, 3) := by decide +kernel
theorem dX0_copyFrom_137 : decode cX0_copyFrom 137 = .ok (.iconst 0, 1) := by decide +kernel
theorem dX0_copyFrom_138 : decode cX0_copyFrom 138 = .ok (.bipush 20, 2) := by decide +kernel
theorem dX0_copyFrom_140 : decode cX0_copyFrom 140 = .ok (.invokestatic 74, 3) := by decide +kernel
theorem dX0_copyFrom_143 : decode cX0_copyFrom 143 = .ok (.aload_n 1, 1) := by decide +kernel
theorem dX0_copyFrom_144 : decode cX0_copyFrom 144 = .ok (.getfield 37, 3) := by decide +kernel
theorem dX0_copyFrom_147 : decode cX0_copyFrom 147 = .ok (.iconst 0, 1) := by decide +kernel
theorem dX0_copyFrom_148 : decode cX0_copyFrom 148 = .ok (.aload_n 0, 1) := by decide +kernel
theorem dX0_copyFrom_149 : decode cX0_copyFrom 149 = .ok (.getfield 37, 3) := by decide +kernel
theorem dX0_copyFrom_152 : decode cX0_copyFrom 152 = .ok (.iconst 0, 1) := by decide +kernel
theorem dX0_copyFrom_153 : decode cX0_copyFrom 153 = .ok (.bipush 20, 2) := by decide +kernel
theorem dX0_copyFrom_155 : decode cX0_copyFrom 155 = .ok (.invokestatic 74, 3) := by decide +kernel
theorem dX0_copyFrom_158 : decode cX0_copyFrom 158 = .ok (.aload_n 1, 1) := by decide +kernel
theorem dX0_copyFrom_159 : decode cX0_copyFrom 159 = .ok (.getfield 40, 3) := by decide +kernel
theorem dX0_copyFrom_162 : decode cX0_copyFrom 162 = .ok (.iconst 0, 1) := by decide +kernel
theorem dX0_copyFrom_163 : decode cX0_copyFrom 163 = .ok (.aload_n 0, 1) := by decide +kernel
theorem dX0_copyFrom_164 : decode cX0_copyFrom 164 = .ok (.getfield 40, 3) := by decide +kernel
theorem dX0_copyFrom_167 : decode cX0_copyFrom 167 = .ok (.iconst 0, 1) := by decide +kernel
theorem dX0_copyFrom_168 : decode cX0_copyFrom 168 = .ok (.bipush 20, 2) := by decide +kernel
theorem dX0_copyFrom_170 : decode cX0_copyFrom 170 = .ok (.invokestatic 74, 3) := by decide +kernel
theorem dX0_copyFrom_173 : decode cX0_copyFrom 173 = .ok (.aload_n 1, 1) := by decide +kernel
theorem dX0_copyFrom_174 : decode cX0_copyFrom 174 = .ok (.getfield 43, 3) := by decide +kernel
theorem dX0_copyFrom_177 : decode cX0_copyFrom 177 = .ok (.iconst 0, 1) := by decide +kernel
theorem dX0_copyFrom_178 : decode cX0_copyFrom 178 = .ok (.aload_n 0, 1) := by decide +kernel
theorem dX0_copyFrom_179 : decode cX0_copyFrom 179 = .ok (.getfield 43, 3) := by decide +kernel
theorem dX0_copyFrom_182 : decode cX0_copyFrom 182 = .ok (.iconst 0, 1) := by decide +kernel
theorem dX0_copyFrom_183 : decode cX0_copyFrom 183 = .ok (.bipush 20, 2) := by decide +kernel
theorem dX0_copyFrom_185 : decode cX0_copyFrom 185 = .ok (.invokestatic 74, 3) := by decide +kernel
theorem dX0_copyFrom_188 : decode cX0_copyFrom 188 = .ok (.aload_n 1, 1) := by decide +kernel
theorem dX0_copyFrom_189 : decode cX0_copyFrom 189 = .ok (.getfield 46, 3) := by decide +kernel
theorem dX0_copyFrom_192 : decode cX0_copyFrom 192 = .ok (.iconst 0, 1) := by decide +kernel
theorem dX0_copyFrom_193 : decode cX0_copyFrom 193 = .ok (.aload_n 0, 1) := by decide +kernel
theorem dX0_copyFrom_194 : decode cX0_copyFrom 194 = .ok (.getfield 46, 3) := by decide +kernel
theorem dX0_copyFrom_197 : decode cX0_copyFrom 197 = .ok (.iconst 0, 1) := by decide +kernel
theorem dX0_copyFrom_198 : decode cX0_copyFrom 198 = .ok (.bipush 20, 2) := by decide +kernel
theorem dX0_copyFrom_200 : decode cX0_copyFrom 200 = .ok (.invokestatic 74, 3) := by decide +kernel
theorem dX0_copyFrom_203 : decode cX0_copyFrom 203 = .ok (.aload_n 1, 1) := by decide +kernel
theorem dX0_copyFrom_204 : decode cX0_copyFrom 204 = .ok (.getfield 49, 3) := by decide +kernel
theorem dX0_copyFrom_207 : decode cX0_copyFrom 207 = .ok (.iconst 0, 1) := by decide +kernel
theorem dX0_copyFrom_208 : decode cX0_copyFrom 208 = .ok (.aload_n 0, 1) := by decide +kernel
theorem dX0_copyFrom_209 : decode cX0_copyFrom 209 = .ok (.getfield 49, 3) := by decide +kernel
theorem dX0_copyFrom_212 : decode cX0_copyFrom 212 = .ok (.iconst 0, 1) := by decide +kernel
theorem dX0_copyFrom_213 : decode cX0_copyFrom 213 = .ok (.bipush 20, 2) := by decide +kernel
theorem dX0_copyFrom_215 : decode cX0_copyFrom 215 = .ok (.invokestatic 74, 3) := by decide +kernel
theorem dX0_copyFrom_218 : decode cX0_copyFrom 218 = .ok (.aload_n 1, 1) := by decide +kernel
theorem dX0_copyFrom_219 : decode cX0_copyFrom 219 = .ok (.getfield 52, 3) := by decide +kernel
theorem dX0_copyFrom_222 : decode cX0_copyFrom 222 = .ok (.iconst 0, 1) := by decide +kernel
theorem dX0_copyFrom_223 : decode cX0_copyFrom 223 = .ok (.aload_n 0, 1) := by decide +kernel
theorem dX0_copyFrom_224 : decode cX0_copyFrom 224 = .ok (.getfield 52, 3) := by decide +kernel
theorem dX0_copyFrom_227 : decode cX0_copyFrom 227 = .ok (.iconst 0, 1) := by decide +kernel
theorem dX0_copyFrom_228 : decode cX0_copyFrom 228 = .ok (.bipush 20, 2) := by decide +kernel
theorem dX0_copyFrom_230 : decode cX0_copyFrom 230 = .ok (.invokestatic 74, 3) := by decide +kernel
theorem dX0_copyFrom_233 : decode cX0_copyFrom 233 = .ok (.return_, 1) := by decide +kernel
theorem dX0_addPurchase_0 : decode cX0_addPurchase 0 = .ok (.aload_n 0, 1) := by decide +kernel
theorem dX0_addPurchase_1 : decode cX0_addPurchase 1 = .ok (.getfield 68, 3) := by decide +kernel
theorem dX0_addPurchase_4 : decode cX0_addPurchase 4 = .ok (.istore 4, 2) := by decide +kernel
theorem dX0_addPurchase_6 : decode cX0_addPurchase 6 = .ok (.iload 4, 2) := by decide +kernel
theorem dX0_addPurchase_8 : decode cX0_addPurchase 8 = .ok (.bipush 24, 2) := by decide +kernel
theorem dX0_addPurchase_10 : decode cX0_addPurchase 10 = .ok (.if_icmp .ge 56, 3) := by decide +kernel
theorem dX0_addPurchase_13 : decode cX0_addPurchase 13 = .ok (.aload_n 0, 1) := by decide +kernel
theorem dX0_addPurchase_14 : decode cX0_addPurchase 14 = .ok (.getfield 22, 3) := by decide +kernel
theorem dX0_addPurchase_17 : decode cX0_addPurchase 17 = .ok (.iload 4, 2) := by decide +kernel
theorem dX0_addPurchase_19 : decode cX0_addPurchase 19 = .ok (.iload_n 1, 1) := by decide +kernel
theorem dX0_addPurchase_20 : decode cX0_addPurchase 20 = .ok (.iastore, 1) := by decide +kernel
theorem dX0_addPurchase_21 : decode cX0_addPurchase 21 = .ok (.aload_n 0, 1) := by decide +kernel
theorem dX0_addPurchase_22 : decode cX0_addPurchase 22 = .ok (.getfield 25, 3) := by decide +kernel
theorem dX0_addPurchase_25 : decode cX0_addPurchase 25 = .ok (.iload 4, 2) := by decide +kernel
theorem dX0_addPurchase_27 : decode cX0_addPurchase 27 = .ok (.iload_n 2, 1) := by decide +kernel
theorem dX0_addPurchase_28 : decode cX0_addPurchase 28 = .ok (.iastore, 1) := by decide +kernel
theorem dX0_addPurchase_29 : decode cX0_addPurchase 29 = .ok (.aload_n 0, 1) := by decide +kernel
theorem dX0_addPurchase_30 : decode cX0_addPurchase 30 = .ok (.getfield 28, 3) := by decide +kernel
theorem dX0_addPurchase_33 : decode cX0_addPurchase 33 = .ok (.iload 4, 2) := by decide +kernel
theorem dX0_addPurchase_35 : decode cX0_addPurchase 35 = .ok (.iload_n 3, 1) := by decide +kernel
theorem dX0_addPurchase_36 : decode cX0_addPurchase 36 = .ok (.iastore, 1) := by decide +kernel
theorem dX0_addPurchase_37 : decode cX0_addPurchase 37 = .ok (.aload_n 0, 1) := by decide +kernel
theorem dX0_addPurchase_38 : decode cX0_addPurchase 38 = .ok (.getfield 31, 3) := by decide +kernel
theorem dX0_addPurchase_41 : decode cX0_addPurchase 41 = .ok (.iload 4, 2) := by decide +kernel
theorem dX0_addPurchase_43 : decode cX0_addPurchase 43 = .ok (.aload_n 0, 1) := by decide +kernel
theorem dX0_addPurchase_44 : decode cX0_addPurchase 44 = .ok (.getfield 55, 3) := by decide +kernel
theorem dX0_addPurchase_47 : decode cX0_addPurchase 47 = .ok (.iastore, 1) := by decide +kernel
theorem dX0_addPurchase_48 : decode cX0_addPurchase 48 = .ok (.aload_n 0, 1) := by decide +kernel
theorem dX0_addPurchase_49 : decode cX0_addPurchase 49 = .ok (.dup, 1) := by decide +kernel
theorem dX0_addPurchase_50 : decode cX0_addPurchase 50 = .ok (.getfield 68, 3) := by decide +kernel
theorem dX0_addPurchase_53 : decode cX0_addPurchase 53 = .ok (.iconst 1, 1) := by decide +kernel
theorem dX0_addPurchase_54 : decode cX0_addPurchase 54 = .ok (.iadd, 1) := by decide +kernel
theorem dX0_addPurchase_55 : decode cX0_addPurchase 55 = .ok (.putfield 68, 3) := by decide +kernel
theorem dX0_addPurchase_58 : decode cX0_addPurchase 58 = .ok (.aload_n 0, 1) := by decide +kernel
theorem dX0_addPurchase_59 : decode cX0_addPurchase 59 = .ok (.iload 4, 2) := by decide +kernel
theorem dX0_addPurchase_61 : decode cX0_addPurchase 61 = .ok (.iload_n 3, 1) := by decide +kernel
theorem dX0_addPurchase_62 : decode cX0_addPurchase 62 = .ok (.iconst 0, 1) := by decide +kernel
theorem dX0_addPurchase_63 : decode cX0_addPurchase 63 = .ok (.invokevirtual 80, 3) := by decide +kernel
theorem dX0_addPurchase_66 : decode cX0_addPurchase 66 = .ok (.iload 4, 2) := by decide +kernel
theorem dX0_addPurchase_68 : decode cX0_addPurchase 68 = .ok (.ireturn, 1) := by decide +kernel
theorem dX0_addDispute_0 : decode cX0_addDispute 0 = .ok (.aload_n 0, 1) := by decide +kernel
theorem dX0_addDispute_1 : decode cX0_addDispute 1 = .ok (.getfield 71, 3) := by decide +kernel
theorem dX0_addDispute_4 : decode cX0_addDispute 4 = .ok (.istore 4, 2) := by decide +kernel
theorem dX0_addDispute_6 : decode cX0_addDispute 6 = .ok (.iload 4, 2) := by decide +kernel
theorem dX0_addDispute_8 : decode cX0_addDispute 8 = .ok (.bipush 20, 2) := by decide +kernel
theorem dX0_addDispute_10 : decode cX0_addDispute 10 = .ok (.if_icmp .ge 107, 3) := by decide +kernel
theorem dX0_addDispute_13 : decode cX0_addDispute 13 = .ok (.aload_n 0, 1) := by decide +kernel
theorem dX0_addDispute_14 : decode cX0_addDispute 14 = .ok (.getfield 34, 3) := by decide +kernel
theorem dX0_addDispute_17 : decode cX0_addDispute 17 = .ok (.iload 4, 2) := by decide +kernel
theorem dX0_addDispute_19 : decode cX0_addDispute 19 = .ok (.iload_n 1, 1) := by decide +kernel
theorem dX0_addDispute_20 : decode cX0_addDispute 20 = .ok (.iastore, 1) := by decide +kernel
theorem dX0_addDispute_21 : decode cX0_addDispute 21 = .ok (.aload_n 0, 1) := by decide +kernel
theorem dX0_addDispute_22 : decode cX0_addDispute 22 = .ok (.getfield 37, 3) := by decide +kernel
theorem dX0_addDispute_25 : decode cX0_addDispute 25 = .ok (.iload 4, 2) := by decide +kernel
theorem dX0_addDispute_27 : decode cX0_addDispute 27 = .ok (.iload_n 2, 1) := by decide +kernel
theorem dX0_addDispute_28 : decode cX0_addDispute 28 = .ok (.iastore, 1) := by decide +kernel
theorem dX0_addDispute_29 : decode cX0_addDispute 29 = .ok (.aload_n 0, 1) := by decide +kernel
theorem dX0_addDispute_30 : decode cX0_addDispute 30 = .ok (.getfield 40, 3) := by decide +kernel
theorem dX0_addDispute_33 : decode cX0_addDispute 33 = .ok (.iload 4, 2) := by decide +kernel
theorem dX0_addDispute_35 : decode cX0_addDispute 35 = .ok (.iload_n 3, 1) := by decide +kernel
theorem dX0_addDispute_36 : decode cX0_addDispute 36 = .ok (.iastore, 1) := by decide +kernel
theorem dX0_addDispute_37 : decode cX0_addDispute 37 = .ok (.aload_n 0, 1) := by decide +kernel
theorem dX0_addDispute_38 : decode cX0_addDispute 38 = .ok (.getfield 43, 3) := by decide +kernel
theorem dX0_addDispute_41 : decode cX0_addDispute 41 = .ok (.iload 4, 2) := by decide +kernel
theorem dX0_addDispute_43 : decode cX0_addDispute 43 = .ok (.aload_n 0, 1) := by decide +kernel
theorem dX0_addDispute_44 : decode cX0_addDispute 44 = .ok (.getfield 55, 3) := by decide +kernel
theorem dX0_addDispute_47 : decode cX0_addDispute 47 = .ok (.iastore, 1) := by decide +kernel
theorem dX0_addDispute_48 : decode cX0_addDispute 48 = .ok (.aload_n 0, 1) := by decide +kernel
theorem dX0_addDispute_49 : decode cX0_addDispute 49 = .ok (.getfield 46, 3) := by decide +kernel
theorem dX0_addDispute_52 : decode cX0_addDispute 52 = .ok (.iload 4, 2) := by decide +kernel
theorem dX0_addDispute_54 : decode cX0_addDispute 54 = .ok (.iconst 0, 1) := by decide +kernel
theorem dX0_addDispute_55 : decode cX0_addDispute 55 = .ok (.iastore, 1) := by decide +kernel
theorem dX0_addDispute_56 : decode cX0_addDispute 56 = .ok (.aload_n 0, 1) := by decide +kernel
theorem dX0_addDispute_57 : decode cX0_addDispute 57 = .ok (.getfield 49, 3) := by decide +kernel
theorem dX0_addDispute_60 : decode cX0_addDispute 60 = .ok (.iload 4, 2) := by decide +kernel
theorem dX0_addDispute_62 : decode cX0_addDispute 62 = .ok (.iconst 0, 1) := by decide +kernel
theorem dX0_addDispute_63 : decode cX0_addDispute 63 = .ok (.iastore, 1) := by decide +kernel
theorem dX0_addDispute_64 : decode cX0_addDispute 64 = .ok (.aload_n 0, 1) := by decide +kernel
theorem dX0_addDispute_65 : decode cX0_addDispute 65 = .ok (.getfield 52, 3) := by decide +kernel
theorem dX0_addDispute_68 : decode cX0_addDispute 68 = .ok (.iload 4, 2) := by decide +kernel
theorem dX0_addDispute_70 : decode cX0_addDispute 70 = .ok (.aload_n 0, 1) := by decide +kernel
theorem dX0_addDispute_71 : decode cX0_addDispute 71 = .ok (.getfield 55, 3) := by decide +kernel
theorem dX0_addDispute_74 : decode cX0_addDispute 74 = .ok (.aload_n 0, 1) := by decide +kernel
theorem dX0_addDispute_75 : decode cX0_addDispute 75 = .ok (.getfield 9, 3) := by decide +kernel
theorem dX0_addDispute_78 : decode cX0_addDispute 78 = .ok (.getfield 84, 3) := by decide +kernel
theorem dX0_addDispute_81 : decode cX0_addDispute 81 = .ok (.iload_n 2, 1) := by decide +kernel
theorem dX0_addDispute_82 : decode cX0_addDispute 82 = .ok (.iaload, 1) := by decide +kernel
theorem dX0_addDispute_83 : decode cX0_addDispute 83 = .ok (.iadd, 1) := by decide +kernel
theorem dX0_addDispute_84 : decode cX0_addDispute 84 = .ok (.iastore, 1) := by decide +kernel
theorem dX0_addDispute_85 : decode cX0_addDispute 85 = .ok (.aload_n 0, 1) := by decide +kernel
theorem dX0_addDispute_86 : decode cX0_addDispute 86 = .ok (.dup, 1) := by decide +kernel
theorem dX0_addDispute_87 : decode cX0_addDispute 87 = .ok (.getfield 71, 3) := by decide +kernel
theorem dX0_addDispute_90 : decode cX0_addDispute 90 = .ok (.iconst 1, 1) := by decide +kernel
theorem dX0_addDispute_91 : decode cX0_addDispute 91 = .ok (.iadd, 1) := by decide +kernel
theorem dX0_addDispute_92 : decode cX0_addDispute 92 = .ok (.putfield 71, 3) := by decide +kernel
theorem dX0_addDispute_95 : decode cX0_addDispute 95 = .ok (.aload_n 0, 1) := by decide +kernel
theorem dX0_addDispute_96 : decode cX0_addDispute 96 = .ok (.iload_n 1, 1) := by decide +kernel
theorem dX0_addDispute_97 : decode cX0_addDispute 97 = .ok (.iload_n 3, 1) := by decide +kernel
theorem dX0_addDispute_98 : decode cX0_addDispute 98 = .ok (.ineg, 1) := by decide +kernel
theorem dX0_addDispute_99 : decode cX0_addDispute 99 = .ok (.aload_n 0, 1) := by decide +kernel
theorem dX0_addDispute_100 : decode cX0_addDispute 100 = .ok (.getfield 9, 3) := by decide +kernel
theorem dX0_addDispute_103 : decode cX0_addDispute 103 = .ok (.getfield 89, 3) := by decide +kernel
theorem dX0_addDispute_106 : decode cX0_addDispute 106 = .ok (.isub, 1) := by decide +kernel
theorem dX0_addDispute_107 : decode cX0_addDispute 107 = .ok (.aload_n 0, 1) := by decide +kernel
theorem dX0_addDispute_108 : decode cX0_addDispute 108 = .ok (.getfield 9, 3) := by decide +kernel
theorem dX0_addDispute_111 : decode cX0_addDispute 111 = .ok (.getfield 89, 3) := by decide +kernel
theorem dX0_addDispute_114 : decode cX0_addDispute 114 = .ok (.invokevirtual 80, 3) := by decide +kernel
theorem dX0_addDispute_117 : decode cX0_addDispute 117 = .ok (.iload 4, 2) := by decide +kernel
theorem dX0_addDispute_119 : decode cX0_addDispute 119 = .ok (.ireturn, 1) := by decide +kernel
theorem dX0_toRepresented_0 : decode cX0_toRepresented 0 = .ok (.aload_n 0, 1) := by decide +kernel
theorem dX0_toRepresented_1 : decode cX0_toRepresented 1 = .ok (.getfield 46, 3) := by decide +kernel
theorem dX0_toRepresented_4 : decode cX0_toRepresented 4 = .ok (.iload_n 1, 1) := by decide +kernel
theorem dX0_toRepresented_5 : decode cX0_toRepresented 5 = .ok (.dup2, 1) := by decide +kernel
theorem dX0_toRepresented_6 : decode cX0_toRepresented 6 = .ok (.iaload, 1) := by decide +kernel
theorem dX0_toRepresented_7 : decode cX0_toRepresented 7 = .ok (.iload_n 2, 1) := by decide +kernel
theorem dX0_toRepresented_8 : decode cX0_toRepresented 8 = .ok (.ior, 1) := by decide +kernel
theorem dX0_toRepresented_9 : decode cX0_toRepresented 9 = .ok (.iastore, 1) := by decide +kernel
theorem dX0_toRepresented_10 : decode cX0_toRepresented 10 = .ok (.aload_n 0, 1) := by decide +kernel
theorem dX0_toRepresented_11 : decode cX0_toRepresented 11 = .ok (.getfield 49, 3) := by decide +kernel
theorem dX0_toRepresented_14 : decode cX0_toRepresented 14 = .ok (.iload_n 1, 1) := by decide +kernel
theorem dX0_toRepresented_15 : decode cX0_toRepresented 15 = .ok (.iconst 1, 1) := by decide +kernel
theorem dX0_toRepresented_16 : decode cX0_toRepresented 16 = .ok (.iastore, 1) := by decide +kernel
theorem dX0_toRepresented_17 : decode cX0_toRepresented 17 = .ok (.aload_n 0, 1) := by decide +kernel
theorem dX0_toRepresented_18 : decode cX0_toRepresented 18 = .ok (.getfield 52, 3) := by decide +kernel
theorem dX0_toRepresented_21 : decode cX0_toRepresented 21 = .ok (.iload_n 1, 1) := by decide +kernel
theorem dX0_toRepresented_22 : decode cX0_toRepresented 22 = .ok (.aload_n 0, 1) := by decide +kernel
theorem dX0_toRepresented_23 : decode cX0_toRepresented 23 = .ok (.getfield 55, 3) := by decide +kernel
theorem dX0_toRepresented_26 : decode cX0_toRepresented 26 = .ok (.aload_n 0, 1) := by decide +kernel
theorem dX0_toRepresented_27 : decode cX0_toRepresented 27 = .ok (.getfield 9, 3) := by decide +kernel
theorem dX0_toRepresented_30 : decode cX0_toRepresented 30 = .ok (.getfield 92, 3) := by decide +kernel
theorem dX0_toRepresented_33 : decode cX0_toRepresented 33 = .ok (.aload_n 0, 1) := by decide +kernel
theorem dX0_toRepresented_34 : decode cX0_toRepresented 34 = .ok (.getfield 37, 3) := by decide +kernel
theorem dX0_toRepresented_37 : decode cX0_toRepresented 37 = .ok (.iload_n 1, 1) := by decide +kernel
theorem dX0_toRepresented_38 : decode cX0_toRepresented 38 = .ok (.iaload, 1) := by decide +kernel
theorem dX0_toRepresented_39 : decode cX0_toRepresented 39 = .ok (.iaload, 1) := by decide +kernel
theorem dX0_toRepresented_40 : decode cX0_toRepresented 40 = .ok (.iadd, 1) := by decide +kernel
theorem dX0_toRepresented_41 : decode cX0_toRepresented 41 = .ok (.iastore, 1) := by decide +kernel
theorem dX0_toRepresented_42 : decode cX0_toRepresented 42 = .ok (.aload_n 0, 1) := by decide +kernel
theorem dX0_toRepresented_43 : decode cX0_toRepresented 43 = .ok (.aload_n 0, 1) := by decide +kernel
theorem dX0_toRepresented_44 : decode cX0_toRepresented 44 = .ok (.getfield 34, 3) := by decide +kernel
theorem dX0_toRepresented_47 : decode cX0_toRepresented 47 = .ok (.iload_n 1, 1) := by decide +kernel
theorem dX0_toRepresented_48 : decode cX0_toRepresented 48 = .ok (.iaload, 1) := by decide +kernel
theorem dX0_toRepresented_49 : decode cX0_toRepresented 49 = .ok (.aload_n 0, 1) := by decide +kernel
theorem dX0_toRepresented_50 : decode cX0_toRepresented 50 = .ok (.getfield 40, 3) := by decide +kernel
theorem dX0_toRepresented_53 : decode cX0_toRepresented 53 = .ok (.iload_n 1, 1) := by decide +kernel
theorem dX0_toRepresented_54 : decode cX0_toRepresented 54 = .ok (.iaload, 1) := by decide +kernel
theorem dX0_toRepresented_55 : decode cX0_toRepresented 55 = .ok (.iconst 0, 1) := by decide +kernel
theorem dX0_toRepresented_56 : decode cX0_toRepresented 56 = .ok (.invokevirtual 80, 3) := by decide +kernel
theorem dX0_toRepresented_59 : decode cX0_toRepresented 59 = .ok (.return_, 1) := by decide +kernel
theorem dX0_toEscalated_0 : decode cX0_toEscalated 0 = .ok (.aload_n 0, 1) := by decide +kernel
theorem dX0_toEscalated_1 : decode cX0_toEscalated 1 = .ok (.getfield 49, 3) := by decide +kernel
theorem dX0_toEscalated_4 : decode cX0_toEscalated 4 = .ok (.iload_n 1, 1) := by decide +kernel
theorem dX0_toEscalated_5 : decode cX0_toEscalated 5 = .ok (.iconst 2, 1) := by decide +kernel
theorem dX0_toEscalated_6 : decode cX0_toEscalated 6 = .ok (.iastore, 1) := by decide +kernel
theorem dX0_toEscalated_7 : decode cX0_toEscalated 7 = .ok (.aload_n 0, 1) := by decide +kernel
theorem dX0_toEscalated_8 : decode cX0_toEscalated 8 = .ok (.getfield 52, 3) := by decide +kernel
theorem dX0_toEscalated_11 : decode cX0_toEscalated 11 = .ok (.iload_n 1, 1) := by decide +kernel
theorem dX0_toEscalated_12 : decode cX0_toEscalated 12 = .ok (.aload_n 0, 1) := by decide +kernel
theorem dX0_toEscalated_13 : decode cX0_toEscalated 13 = .ok (.getfield 55, 3) := by decide +kernel
theorem dX0_toEscalated_16 : decode cX0_toEscalated 16 = .ok (.aload_n 0, 1) := by decide +kernel
theorem dX0_toEscalated_17 : decode cX0_toEscalated 17 = .ok (.getfield 9, 3) := by decide +kernel
theorem dX0_toEscalated_20 : decode cX0_toEscalated 20 = .ok (.getfield 84, 3) := by decide +kernel
theorem dX0_toEscalated_23 : decode cX0_toEscalated 23 = .ok (.aload_n 0, 1) := by decide +kernel
theorem dX0_toEscalated_24 : decode cX0_toEscalated 24 = .ok (.getfield 37, 3) := by decide +kernel
theorem dX0_toEscalated_27 : decode cX0_toEscalated 27 = .ok (.iload_n 1, 1) := by decide +kernel
theorem dX0_toEscalated_28 : decode cX0_toEscalated 28 = .ok (.iaload, 1) := by decide +kernel
theorem dX0_toEscalated_29 : decode cX0_toEscalated 29 = .ok (.iaload, 1) := by decide +kernel
theorem dX0_toEscalated_30 : decode cX0_toEscalated 30 = .ok (.iadd, 1) := by decide +kernel
theorem dX0_toEscalated_31 : decode cX0_toEscalated 31 = .ok (.iastore, 1) := by decide +kernel
theorem dX0_toEscalated_32 : decode cX0_toEscalated 32 = .ok (.aload_n 0, 1) := by decide +kernel
theorem dX0_toEscalated_33 : decode cX0_toEscalated 33 = .ok (.aload_n 0, 1) := by decide +kernel
theorem dX0_toEscalated_34 : decode cX0_toEscalated 34 = .ok (.getfield 34, 3) := by decide +kernel
theorem dX0_toEscalated_37 : decode cX0_toEscalated 37 = .ok (.iload_n 1, 1) := by decide +kernel
theorem dX0_toEscalated_38 : decode cX0_toEscalated 38 = .ok (.iaload, 1) := by decide +kernel
theorem dX0_toEscalated_39 : decode cX0_toEscalated 39 = .ok (.aload_n 0, 1) := by decide +kernel
theorem dX0_toEscalated_40 : decode cX0_toEscalated 40 = .ok (.getfield 40, 3) := by decide +kernel
theorem dX0_toEscalated_43 : decode cX0_toEscalated 43 = .ok (.iload_n 1, 1) := by decide +kernel
theorem dX0_toEscalated_44 : decode cX0_toEscalated 44 = .ok (.iaload, 1) := by decide +kernel
theorem dX0_toEscalated_45 : decode cX0_toEscalated 45 = .ok (.ineg, 1) := by decide +kernel
theorem dX0_toEscalated_46 : decode cX0_toEscalated 46 = .ok (.iconst 0, 1) := by decide +kernel
theorem dX0_toEscalated_47 : decode cX0_toEscalated 47 = .ok (.invokevirtual 80, 3) := by decide +kernel
theorem dX0_toEscalated_50 : decode cX0_toEscalated 50 = .ok (.return_, 1) := by decide +kernel
theorem dX0_toArbitration_0 : decode cX0_toArbitration 0 = .ok (.aload_n 0, 1) := by decide +kernel
theorem dX0_toArbitration_1 : decode cX0_toArbitration 1 = .ok (.getfield 46, 3) := by decide +kernel
theorem dX0_toArbitration_4 : decode cX0_toArbitration 4 = .ok (.iload_n 1, 1) := by decide +kernel
theorem dX0_toArbitration_5 : decode cX0_toArbitration 5 = .ok (.dup2, 1) := by decide +kernel
theorem dX0_toArbitration_6 : decode cX0_toArbitration 6 = .ok (.iaload, 1) := by decide +kernel
theorem dX0_toArbitration_7 : decode cX0_toArbitration 7 = .ok (.iload_n 2, 1) := by decide +kernel
theorem dX0_toArbitration_8 : decode cX0_toArbitration 8 = .ok (.ior, 1) := by decide +kernel
theorem dX0_toArbitration_9 : decode cX0_toArbitration 9 = .ok (.iastore, 1) := by decide +kernel
theorem dX0_toArbitration_10 : decode cX0_toArbitration 10 = .ok (.aload_n 0, 1) := by decide +kernel
theorem dX0_toArbitration_11 : decode cX0_toArbitration 11 = .ok (.getfield 49, 3) := by decide +kernel
theorem dX0_toArbitration_14 : decode cX0_toArbitration 14 = .ok (.iload_n 1, 1) := by decide +kernel
theorem dX0_toArbitration_15 : decode cX0_toArbitration 15 = .ok (.iconst 3, 1) := by decide +kernel
theorem dX0_toArbitration_16 : decode cX0_toArbitration 16 = .ok (.iastore, 1) := by decide +kernel
theorem dX0_toArbitration_17 : decode cX0_toArbitration 17 = .ok (.aload_n 0, 1) := by decide +kernel
theorem dX0_toArbitration_18 : decode cX0_toArbitration 18 = .ok (.getfield 52, 3) := by decide +kernel
theorem dX0_toArbitration_21 : decode cX0_toArbitration 21 = .ok (.iload_n 1, 1) := by decide +kernel
theorem dX0_toArbitration_22 : decode cX0_toArbitration 22 = .ok (.aload_n 0, 1) := by decide +kernel
theorem dX0_toArbitration_23 : decode cX0_toArbitration 23 = .ok (.getfield 55, 3) := by decide +kernel
theorem dX0_toArbitration_26 : decode cX0_toArbitration 26 = .ok (.bipush 10, 2) := by decide +kernel
theorem dX0_toArbitration_28 : decode cX0_toArbitration 28 = .ok (.iadd, 1) := by decide +kernel
theorem dX0_toArbitration_29 : decode cX0_toArbitration 29 = .ok (.iastore, 1) := by decide +kernel
theorem dX0_toArbitration_30 : decode cX0_toArbitration 30 = .ok (.return_, 1) := by decide +kernel
theorem dX0_finish_0 : decode cX0_finish 0 = .ok (.aload_n 0, 1) := by decide +kernel
theorem dX0_finish_1 : decode cX0_finish 1 = .ok (.getfield 49, 3) := by decide +kernel
theorem dX0_finish_4 : decode cX0_finish 4 = .ok (.iload_n 1, 1) := by decide +kernel
theorem dX0_finish_5 : decode cX0_finish 5 = .ok (.iaload, 1) := by decide +kernel
theorem dX0_finish_6 : decode cX0_finish 6 = .ok (.iconst 3, 1) := by decide +kernel
theorem dX0_finish_7 : decode cX0_finish 7 = .ok (.if_icmp .ne 13, 3) := by decide +kernel
theorem dX0_finish_10 : decode cX0_finish 10 = .ok (.aload_n 0, 1) := by decide +kernel
theorem dX0_finish_11 : decode cX0_finish 11 = .ok (.getfield 9, 3) := by decide +kernel
theorem dX0_finish_14 : decode cX0_finish 14 = .ok (.getfield 95, 3) := by decide +kernel
theorem dX0_finish_17 : decode cX0_finish 17 = .ok (.goto 4, 3) := by decide +kernel
theorem dX0_finish_20 : decode cX0_finish 20 = .ok (.iconst 0, 1) := by decide +kernel
theorem dX0_finish_21 : decode cX0_finish 21 = .ok (.istore_n 3, 1) := by decide +kernel
theorem dX0_finish_22 : decode cX0_finish 22 = .ok (.aload_n 0, 1) := by decide +kernel
theorem dX0_finish_23 : decode cX0_finish 23 = .ok (.aload_n 0, 1) := by decide +kernel
theorem dX0_finish_24 : decode cX0_finish 24 = .ok (.getfield 34, 3) := by decide +kernel
theorem dX0_finish_27 : decode cX0_finish 27 = .ok (.iload_n 1, 1) := by decide +kernel
theorem dX0_finish_28 : decode cX0_finish 28 = .ok (.iaload, 1) := by decide +kernel
theorem dX0_finish_29 : decode cX0_finish 29 = .ok (.aload_n 0, 1) := by decide +kernel
theorem dX0_finish_30 : decode cX0_finish 30 = .ok (.iload_n 1, 1) := by decide +kernel
theorem dX0_finish_31 : decode cX0_finish 31 = .ok (.iload_n 2, 1) := by decide +kernel
theorem dX0_finish_32 : decode cX0_finish 32 = .ok (.invokevirtual 98, 3) := by decide +kernel
theorem dX0_finish_35 : decode cX0_finish 35 = .ok (.iload_n 3, 1) := by decide +kernel
theorem dX0_finish_36 : decode cX0_finish 36 = .ok (.invokevirtual 80, 3) := by decide +kernel
theorem dX0_finish_39 : decode cX0_finish 39 = .ok (.aload_n 0, 1) := by decide +kernel
theorem dX0_finish_40 : decode cX0_finish 40 = .ok (.getfield 49, 3) := by decide +kernel
theorem dX0_finish_43 : decode cX0_finish 43 = .ok (.iload_n 1, 1) := by decide +kernel
theorem dX0_finish_44 : decode cX0_finish 44 = .ok (.iload_n 2, 1) := by decide +kernel
theorem dX0_finish_45 : decode cX0_finish 45 = .ok (.iastore, 1) := by decide +kernel
theorem dX0_finish_46 : decode cX0_finish 46 = .ok (.aload_n 0, 1) := by decide +kernel
theorem dX0_finish_47 : decode cX0_finish 47 = .ok (.getfield 52, 3) := by decide +kernel
theorem dX0_finish_50 : decode cX0_finish 50 = .ok (.iload_n 1, 1) := by decide +kernel
theorem dX0_finish_51 : decode cX0_finish 51 = .ok (.iconst (-1), 1) := by decide +kernel
theorem dX0_finish_52 : decode cX0_finish 52 = .ok (.iastore, 1) := by decide +kernel
theorem dX0_finish_53 : decode cX0_finish 53 = .ok (.return_, 1) := by decide +kernel
theorem dX0_endDay_0 : decode cX0_endDay 0 = .ok (.aload_n 0, 1) := by decide +kernel
theorem dX0_endDay_1 : decode cX0_endDay 1 = .ok (.dup, 1) := by decide +kernel
theorem dX0_endDay_2 : decode cX0_endDay 2 = .ok (.getfield 55, 3) := by decide +kernel
theorem dX0_endDay_5 : decode cX0_endDay 5 = .ok (.iconst 1, 1) := by decide +kernel
theorem dX0_endDay_6 : decode cX0_endDay 6 = .ok (.iadd, 1) := by decide +kernel
theorem dX0_endDay_7 : decode cX0_endDay 7 = .ok (.putfield 55, 3) := by decide +kernel
theorem dX0_endDay_10 : decode cX0_endDay 10 = .ok (.iconst 0, 1) := by decide +kernel
theorem dX0_endDay_11 : decode cX0_endDay 11 = .ok (.istore_n 1, 1) := by decide +kernel
theorem dX0_endDay_12 : decode cX0_endDay 12 = .ok (.iconst 0, 1) := by decide +kernel
theorem dX0_endDay_13 : decode cX0_endDay 13 = .ok (.istore_n 2, 1) := by decide +kernel
theorem dX0_endDay_14 : decode cX0_endDay 14 = .ok (.iload_n 2, 1) := by decide +kernel
theorem dX0_endDay_15 : decode cX0_endDay 15 = .ok (.aload_n 0, 1) := by decide +kernel
theorem dX0_endDay_16 : decode cX0_endDay 16 = .ok (.getfield 71, 3) := by decide +kernel
theorem dX0_endDay_19 : decode cX0_endDay 19 = .ok (.if_icmp .ge 43, 3) := by decide +kernel
theorem dX0_endDay_22 : decode cX0_endDay 22 = .ok (.aload_n 0, 1) := by decide +kernel
theorem dX0_endDay_23 : decode cX0_endDay 23 = .ok (.iload_n 2, 1) := by decide +kernel
theorem dX0_endDay_24 : decode cX0_endDay 24 = .ok (.invokevirtual 102, 3) := by decide +kernel
theorem dX0_endDay_27 : decode cX0_endDay 27 = .ok (.ifCond .ne 29, 3) := by decide +kernel
theorem dX0_endDay_30 : decode cX0_endDay 30 = .ok (.aload_n 0, 1) := by decide +kernel
theorem dX0_endDay_31 : decode cX0_endDay 31 = .ok (.getfield 52, 3) := by decide +kernel
theorem dX0_endDay_34 : decode cX0_endDay 34 = .ok (.iload_n 2, 1) := by decide +kernel
theorem dX0_endDay_35 : decode cX0_endDay 35 = .ok (.iaload, 1) := by decide +kernel
theorem dX0_endDay_36 : decode cX0_endDay 36 = .ok (.aload_n 0, 1) := by decide +kernel
theorem dX0_endDay_37 : decode cX0_endDay 37 = .ok (.getfield 55, 3) := by decide +kernel
theorem dX0_endDay_40 : decode cX0_endDay 40 = .ok (.if_icmp .ge 16, 3) := by decide +kernel
theorem dX0_endDay_43 : decode cX0_endDay 43 = .ok (.aload_n 0, 1) := by decide +kernel
theorem dX0_endDay_44 : decode cX0_endDay 44 = .ok (.iload_n 2, 1) := by decide +kernel
theorem dX0_endDay_45 : decode cX0_endDay 45 = .ok (.aload_n 0, 1) := by decide +kernel
theorem dX0_endDay_46 : decode cX0_endDay 46 = .ok (.iload_n 2, 1) := by decide +kernel
theorem dX0_endDay_47 : decode cX0_endDay 47 = .ok (.invokevirtual 106, 3) := by decide +kernel
theorem dX0_endDay_50 : decode cX0_endDay 50 = .ok (.invokevirtual 110, 3) := by decide +kernel
theorem dX0_endDay_53 : decode cX0_endDay 53 = .ok (.iinc 1 1, 3) := by decide +kernel
theorem dX0_endDay_56 : decode cX0_endDay 56 = .ok (.iinc 2 1, 3) := by decide +kernel
theorem dX0_endDay_59 : decode cX0_endDay 59 = .ok (.goto (-45), 3) := by decide +kernel
theorem dX0_endDay_62 : decode cX0_endDay 62 = .ok (.iload_n 1, 1) := by decide +kernel
theorem dX0_endDay_63 : decode cX0_endDay 63 = .ok (.ireturn, 1) := by decide +kernel
theorem dX0_idleOutcome_0 : decode cX0_idleOutcome 0 = .ok (.aload_n 0, 1) := by decide +kernel
theorem dX0_idleOutcome_1 : decode cX0_idleOutcome 1 = .ok (.getfield 49, 3) := by decide +kernel
theorem dX0_idleOutcome_4 : decode cX0_idleOutcome 4 = .ok (.iload_n 1, 1) := by decide +kernel
theorem dX0_idleOutcome_5 : decode cX0_idleOutcome 5 = .ok (.iaload, 1) := by decide +kernel
theorem dX0_idleOutcome_6 : decode cX0_idleOutcome 6 = .ok (.lookupswitch 48 #[(1, 26), (3, 28)], 26) := by decide +kernel
theorem dX0_idleOutcome_32 : decode cX0_idleOutcome 32 = .ok (.iconst 5, 1) := by decide +kernel
theorem dX0_idleOutcome_33 : decode cX0_idleOutcome 33 = .ok (.ireturn, 1) := by decide +kernel
theorem dX0_idleOutcome_34 : decode cX0_idleOutcome 34 = .ok (.aload_n 0, 1) := by decide +kernel
theorem dX0_idleOutcome_35 : decode cX0_idleOutcome 35 = .ok (.iload_n 1, 1) := by decide +kernel
theorem dX0_idleOutcome_36 : decode cX0_idleOutcome 36 = .ok (.aload_n 0, 1) := by decide +kernel
theorem dX0_idleOutcome_37 : decode cX0_idleOutcome 37 = .ok (.getfield 46, 3) := by decide +kernel
theorem dX0_idleOutcome_40 : decode cX0_idleOutcome 40 = .ok (.iload_n 1, 1) := by decide +kernel
theorem dX0_idleOutcome_41 : decode cX0_idleOutcome 41 = .ok (.iaload, 1) := by decide +kernel
theorem dX0_idleOutcome_42 : decode cX0_idleOutcome 42 = .ok (.invokevirtual 114, 3) := by decide +kernel
theorem dX0_idleOutcome_45 : decode cX0_idleOutcome 45 = .ok (.ifCond .eq 7, 3) := by decide +kernel
theorem dX0_idleOutcome_48 : decode cX0_idleOutcome 48 = .ok (.iconst 5, 1) := by decide +kernel
theorem dX0_idleOutcome_49 : decode cX0_idleOutcome 49 = .ok (.goto 4, 3) := by decide +kernel
theorem dX0_idleOutcome_52 : decode cX0_idleOutcome 52 = .ok (.iconst 4, 1) := by decide +kernel
theorem dX0_idleOutcome_53 : decode cX0_idleOutcome 53 = .ok (.ireturn, 1) := by decide +kernel
theorem dX0_idleOutcome_54 : decode cX0_idleOutcome 54 = .ok (.iconst 4, 1) := by decide +kernel
theorem dX0_idleOutcome_55 : decode cX0_idleOutcome 55 = .ok (.ireturn, 1) := by decide +kernel
theorem dX0_isFinal_0 : decode cX0_isFinal 0 = .ok (.aload_n 0, 1) := by decide +kernel
theorem dX0_isFinal_1 : decode cX0_isFinal 1 = .ok (.getfield 49, 3) := by decide +kernel
theorem dX0_isFinal_4 : decode cX0_isFinal 4 = .ok (.iload_n 1, 1) := by decide +kernel
theorem dX0_isFinal_5 : decode cX0_isFinal 5 = .ok (.iaload, 1) := by decide +kernel
theorem dX0_isFinal_6 : decode cX0_isFinal 6 = .ok (.iconst 4, 1) := by decide +kernel
theorem dX0_isFinal_7 : decode cX0_isFinal 7 = .ok (.if_icmp .eq 13, 3) := by decide +kernel
theorem dX0_isFinal_10 : decode cX0_isFinal 10 = .ok (.aload_n 0, 1) := by decide +kernel
theorem dX0_isFinal_11 : decode cX0_isFinal 11 = .ok (.getfield 49, 3) := by decide +kernel
theorem dX0_isFinal_14 : decode cX0_isFinal 14 = .ok (.iload_n 1, 1) := by decide +kernel
theorem dX0_isFinal_15 : decode cX0_isFinal 15 = .ok (.iaload, 1) := by decide +kernel
theorem dX0_isFinal_16 : decode cX0_isFinal 16 = .ok (.iconst 5, 1) := by decide +kernel
theorem dX0_isFinal_17 : decode cX0_isFinal 17 = .ok (.if_icmp .ne 7, 3) := by decide +kernel
theorem dX0_isFinal_20 : decode cX0_isFinal 20 = .ok (.iconst 1, 1) := by decide +kernel
theorem dX0_isFinal_21 : decode cX0_isFinal 21 = .ok (.goto 4, 3) := by decide +kernel
theorem dX0_isFinal_24 : decode cX0_isFinal 24 = .ok (.iconst 0, 1) := by decide +kernel
theorem dX0_isFinal_25 : decode cX0_isFinal 25 = .ok (.ireturn, 1) := by decide +kernel
theorem dX0_merchantHolds_0 : decode cX0_merchantHolds 0 = .ok (.aload_n 0, 1) := by decide +kernel
theorem dX0_merchantHolds_1 : decode cX0_merchantHolds 1 = .ok (.getfield 49, 3) := by decide +kernel
theorem dX0_merchantHolds_4 : decode cX0_merchantHolds 4 = .ok (.iload_n 1, 1) := by decide +kernel
theorem dX0_merchantHolds_5 : decode cX0_merchantHolds 5 = .ok (.iaload, 1) := by decide +kernel
theorem dX0_merchantHolds_6 : decode cX0_merchantHolds 6 = .ok (.iconst 1, 1) := by decide +kernel
theorem dX0_merchantHolds_7 : decode cX0_merchantHolds 7 = .ok (.if_icmp .eq 13, 3) := by decide +kernel
theorem dX0_merchantHolds_10 : decode cX0_merchantHolds 10 = .ok (.aload_n 0, 1) := by decide +kernel
theorem dX0_merchantHolds_11 : decode cX0_merchantHolds 11 = .ok (.getfield 49, 3) := by decide +kernel
theorem dX0_merchantHolds_14 : decode cX0_merchantHolds 14 = .ok (.iload_n 1, 1) := by decide +kernel
theorem dX0_merchantHolds_15 : decode cX0_merchantHolds 15 = .ok (.iaload, 1) := by decide +kernel
theorem dX0_merchantHolds_16 : decode cX0_merchantHolds 16 = .ok (.iconst 5, 1) := by decide +kernel
theorem dX0_merchantHolds_17 : decode cX0_merchantHolds 17 = .ok (.if_icmp .ne 7, 3) := by decide +kernel
theorem dX0_merchantHolds_20 : decode cX0_merchantHolds 20 = .ok (.iconst 1, 1) := by decide +kernel
theorem dX0_merchantHolds_21 : decode cX0_merchantHolds 21 = .ok (.goto 4, 3) := by decide +kernel
theorem dX0_merchantHolds_24 : decode cX0_merchantHolds 24 = .ok (.iconst 0, 1) := by decide +kernel
theorem dX0_merchantHolds_25 : decode cX0_merchantHolds 25 = .ok (.ireturn, 1) := by decide +kernel
theorem dX0_isTooLate_0 : decode cX0_isTooLate 0 = .ok (.aload_n 0, 1) := by decide +kernel
theorem dX0_isTooLate_1 : decode cX0_isTooLate 1 = .ok (.getfield 55, 3) := by decide +kernel
theorem dX0_isTooLate_4 : decode cX0_isTooLate 4 = .ok (.aload_n 0, 1) := by decide +kernel
theorem dX0_isTooLate_5 : decode cX0_isTooLate 5 = .ok (.getfield 31, 3) := by decide +kernel
theorem dX0_isTooLate_8 : decode cX0_isTooLate 8 = .ok (.iload_n 1, 1) := by decide +kernel
theorem dX0_isTooLate_9 : decode cX0_isTooLate 9 = .ok (.iaload, 1) := by decide +kernel
theorem dX0_isTooLate_10 : decode cX0_isTooLate 10 = .ok (.aload_n 0, 1) := by decide +kernel
theorem dX0_isTooLate_11 : decode cX0_isTooLate 11 = .ok (.getfield 9, 3) := by decide +kernel
theorem dX0_isTooLate_14 : decode cX0_isTooLate 14 = .ok (.getfield 118, 3) := by decide +kernel
theorem dX0_isTooLate_17 : decode cX0_isTooLate 17 = .ok (.iload_n 2, 1) := by decide +kernel
theorem dX0_isTooLate_18 : decode cX0_isTooLate 18 = .ok (.iaload, 1) := by decide +kernel
theorem dX0_isTooLate_19 : decode cX0_isTooLate 19 = .ok (.iadd, 1) := by decide +kernel
theorem dX0_isTooLate_20 : decode cX0_isTooLate 20 = .ok (.if_icmp .le 7, 3) := by decide +kernel
theorem dX0_isTooLate_23 : decode cX0_isTooLate 23 = .ok (.iconst 1, 1) := by decide +kernel
theorem dX0_isTooLate_24 : decode cX0_isTooLate 24 = .ok (.goto 4, 3) := by decide +kernel
theorem dX0_isTooLate_27 : decode cX0_isTooLate 27 = .ok (.iconst 0, 1) := by decide +kernel
theorem dX0_isTooLate_28 : decode cX0_isTooLate 28 = .ok (.ireturn, 1) := by decide +kernel
theorem dX0_disputedAmount_0 : decode cX0_disputedAmount 0 = .ok (.iconst 0, 1) := by decide +kernel
theorem dX0_disputedAmount_1 : decode cX0_disputedAmount 1 = .ok (.istore_n 2, 1) := by decide +kernel
theorem dX0_disputedAmount_2 : decode cX0_disputedAmount 2 = .ok (.iconst 0, 1) := by decide +kernel
theorem dX0_disputedAmount_3 : decode cX0_disputedAmount 3 = .ok (.istore_n 3, 1) := by decide +kernel
theorem dX0_disputedAmount_4 : decode cX0_disputedAmount 4 = .ok (.iload_n 3, 1) := by decide +kernel
theorem dX0_disputedAmount_5 : decode cX0_disputedAmount 5 = .ok (.aload_n 0, 1) := by decide +kernel
theorem dX0_disputedAmount_6 : decode cX0_disputedAmount 6 = .ok (.getfield 71, 3) := by decide +kernel
theorem dX0_disputedAmount_9 : decode cX0_disputedAmount 9 = .ok (.if_icmp .ge 38, 3) := by decide +kernel
theorem dX0_disputedAmount_12 : decode cX0_disputedAmount 12 = .ok (.aload_n 0, 1) := by decide +kernel
theorem dX0_disputedAmount_13 : decode cX0_disputedAmount 13 = .ok (.getfield 34, 3) := by decide +kernel
theorem dX0_disputedAmount_16 : decode cX0_disputedAmount 16 = .ok (.iload_n 3, 1) := by decide +kernel
theorem dX0_disputedAmount_17 : decode cX0_disputedAmount 17 = .ok (.iaload, 1) := by decide +kernel
theorem dX0_disputedAmount_18 : decode cX0_disputedAmount 18 = .ok (.iload_n 1, 1) := by decide +kernel
theorem dX0_disputedAmount_19 : decode cX0_disputedAmount 19 = .ok (.if_icmp .ne 22, 3) := by decide +kernel
theorem dX0_disputedAmount_22 : decode cX0_disputedAmount 22 = .ok (.aload_n 0, 1) := by decide +kernel
theorem dX0_disputedAmount_23 : decode cX0_disputedAmount 23 = .ok (.getfield 49, 3) := by decide +kernel
theorem dX0_disputedAmount_26 : decode cX0_disputedAmount 26 = .ok (.iload_n 3, 1) := by decide +kernel
theorem dX0_disputedAmount_27 : decode cX0_disputedAmount 27 = .ok (.iaload, 1) := by decide +kernel
theorem dX0_disputedAmount_28 : decode cX0_disputedAmount 28 = .ok (.iconst 5, 1) := by decide +kernel
theorem dX0_disputedAmount_29 : decode cX0_disputedAmount 29 = .ok (.if_icmp .eq 12, 3) := by decide +kernel
theorem dX0_disputedAmount_32 : decode cX0_disputedAmount 32 = .ok (.iload_n 2, 1) := by decide +kernel
theorem dX0_disputedAmount_33 : decode cX0_disputedAmount 33 = .ok (.aload_n 0, 1) := by decide +kernel
theorem dX0_disputedAmount_34 : decode cX0_disputedAmount 34 = .ok (.getfield 40, 3) := by decide +kernel
theorem dX0_disputedAmount_37 : decode cX0_disputedAmount 37 = .ok (.iload_n 3, 1) := by decide +kernel
theorem dX0_disputedAmount_38 : decode cX0_disputedAmount 38 = .ok (.iaload, 1) := by decide +kernel
theorem dX0_disputedAmount_39 : decode cX0_disputedAmount 39 = .ok (.iadd, 1) := by decide +kernel
theorem dX0_disputedAmount_40 : decode cX0_disputedAmount 40 = .ok (.istore_n 2, 1) := by decide +kernel
theorem dX0_disputedAmount_41 : decode cX0_disputedAmount 41 = .ok (.iinc 3 1, 3) := by decide +kernel
theorem dX0_disputedAmount_44 : decode cX0_disputedAmount 44 = .ok (.goto (-40), 3) := by decide +kernel
theorem dX0_disputedAmount_47 : decode cX0_disputedAmount 47 = .ok (.iload_n 2, 1) := by decide +kernel
theorem dX0_disputedAmount_48 : decode cX0_disputedAmount 48 = .ok (.ireturn, 1) := by decide +kernel
theorem dX0_ownScore_0 : decode cX0_ownScore 0 = .ok (.aload_n 0, 1) := by decide +kernel
theorem dX0_ownScore_1 : decode cX0_ownScore 1 = .ok (.iload_n 1, 1) := by decide +kernel
theorem dX0_ownScore_2 : decode cX0_ownScore 2 = .ok (.aload_n 0, 1) := by decide +kernel
theorem dX0_ownScore_3 : decode cX0_ownScore 3 = .ok (.getfield 46, 3) := by decide +kernel
theorem dX0_ownScore_6 : decode cX0_ownScore 6 = .ok (.iload_n 1, 1) := by decide +kernel
theorem dX0_ownScore_7 : decode cX0_ownScore 7 = .ok (.iaload, 1) := by decide +kernel
theorem dX0_ownScore_8 : decode cX0_ownScore 8 = .ok (.invokevirtual 121, 3) := by decide +kernel
theorem dX0_ownScore_11 : decode cX0_ownScore 11 = .ok (.ireturn, 1) := by decide +kernel
theorem dX0_convinces_0 : decode cX0_convinces 0 = .ok (.aload_n 0, 1) := by decide +kernel
theorem dX0_convinces_1 : decode cX0_convinces 1 = .ok (.getfield 37, 3) := by decide +kernel
theorem dX0_convinces_4 : decode cX0_convinces 4 = .ok (.iload_n 1, 1) := by decide +kernel
theorem dX0_convinces_5 : decode cX0_convinces 5 = .ok (.iaload, 1) := by decide +kernel
theorem dX0_convinces_6 : decode cX0_convinces 6 = .ok (.istore_n 3, 1) := by decide +kernel
theorem dX0_convinces_7 : decode cX0_convinces 7 = .ok (.aload_n 0, 1) := by decide +kernel
theorem dX0_convinces_8 : decode cX0_convinces 8 = .ok (.getfield 9, 3) := by decide +kernel
theorem dX0_convinces_11 : decode cX0_convinces 11 = .ok (.getfield 124, 3) := by decide +kernel
theorem dX0_convinces_14 : decode cX0_convinces 14 = .ok (.iload_n 3, 1) := by decide +kernel
theorem dX0_convinces_15 : decode cX0_convinces 15 = .ok (.iaload, 1) := by decide +kernel
theorem dX0_convinces_16 : decode cX0_convinces 16 = .ok (.iload_n 2, 1) := by decide +kernel
theorem dX0_convinces_17 : decode cX0_convinces 17 = .ok (.iconst (-1), 1) := by decide +kernel
theorem dX0_convinces_18 : decode cX0_convinces 18 = .ok (.ixor, 1) := by decide +kernel
theorem dX0_convinces_19 : decode cX0_convinces 19 = .ok (.iand, 1) := by decide +kernel
theorem dX0_convinces_20 : decode cX0_convinces 20 = .ok (.istore 4, 2) := by decide +kernel
theorem dX0_convinces_22 : decode cX0_convinces 22 = .ok (.iload 4, 2) := by decide +kernel
theorem dX0_convinces_24 : decode cX0_convinces 24 = .ok (.ifCond .ne 25, 3) := by decide +kernel
theorem dX0_convinces_27 : decode cX0_convinces 27 = .ok (.aload_n 0, 1) := by decide +kernel
theorem dX0_convinces_28 : decode cX0_convinces 28 = .ok (.iload_n 1, 1) := by decide +kernel
theorem dX0_convinces_29 : decode cX0_convinces 29 = .ok (.iload_n 2, 1) := by decide +kernel
theorem dX0_convinces_30 : decode cX0_convinces 30 = .ok (.invokevirtual 121, 3) := by decide +kernel
theorem dX0_convinces_33 : decode cX0_convinces 33 = .ok (.aload_n 0, 1) := by decide +kernel
theorem dX0_convinces_34 : decode cX0_convinces 34 = .ok (.getfield 9, 3) := by decide +kernel
theorem dX0_convinces_37 : decode cX0_convinces 37 = .ok (.getfield 127, 3) := by decide +kernel
theorem dX0_convinces_40 : decode cX0_convinces 40 = .ok (.iload_n 3, 1) := by decide +kernel
theorem dX0_convinces_41 : decode cX0_convinces 41 = .ok (.iaload, 1) := by decide +kernel
theorem dX0_convinces_42 : decode cX0_convinces 42 = .ok (.if_icmp .lt 7, 3) := by decide +kernel
theorem dX0_convinces_45 : decode cX0_convinces 45 = .ok (.iconst 1, 1) := by decide +kernel
theorem dX0_convinces_46 : decode cX0_convinces 46 = .ok (.goto 4, 3) := by decide +kernel
theorem dX0_convinces_49 : decode cX0_convinces 49 = .ok (.iconst 0, 1) := by decide +kernel
theorem dX0_convinces_50 : decode cX0_convinces 50 = .ok (.ireturn, 1) := by decide +kernel
theorem dX0_leastConvincing_0 : decode cX0_leastConvincing 0 = .ok (.aload_n 0, 1) := by decide +kernel
theorem dX0_leastConvincing_1 : decode cX0_leastConvincing 1 = .ok (.getfield 46, 3) := by decide +kernel
theorem dX0_leastConvincing_4 : decode cX0_leastConvincing 4 = .ok (.iload_n 1, 1) := by decide +kernel
theorem dX0_leastConvincing_5 : decode cX0_leastConvincing 5 = .ok (.iaload, 1) := by decide +kernel
theorem dX0_leastConvincing_6 : decode cX0_leastConvincing 6 = .ok (.aload_n 0, 1) := by decide +kernel
theorem dX0_leastConvincing_7 : decode cX0_leastConvincing 7 = .ok (.getfield 9, 3) := by decide +kernel
theorem dX0_leastConvincing_10 : decode cX0_leastConvincing 10 = .ok (.getfield 124, 3) := by decide +kernel
theorem dX0_leastConvincing_13 : decode cX0_leastConvincing 13 = .ok (.aload_n 0, 1) := by decide +kernel
theorem dX0_leastConvincing_14 : decode cX0_leastConvincing 14 = .ok (.getfield 37, 3) := by decide +kernel
theorem dX0_leastConvincing_17 : decode cX0_leastConvincing 17 = .ok (.iload_n 1, 1) := by decide +kernel
theorem dX0_leastConvincing_18 : decode cX0_leastConvincing 18 = .ok (.iaload, 1) := by decide +kernel
theorem dX0_leastConvincing_19 : decode cX0_leastConvincing 19 = .ok (.iaload, 1) := by decide +kernel
theorem dX0_leastConvincing_20 : decode cX0_leastConvincing 20 = .ok (.ior, 1) := by decide +kernel
theorem dX0_leastConvincing_21 : decode cX0_leastConvincing 21 = .ok (.istore_n 2, 1) := by decide +kernel
theorem dX0_leastConvincing_22 : decode cX0_leastConvincing 22 = .ok (.iconst 0, 1) := by decide +kernel
theorem dX0_leastConvincing_23 : decode cX0_leastConvincing 23 = .ok (.istore_n 3, 1) := by decide +kernel
theorem dX0_leastConvincing_24 : decode cX0_leastConvincing 24 = .ok (.iload_n 3, 1) := by decide +kernel
theorem dX0_leastConvincing_25 : decode cX0_leastConvincing 25 = .ok (.bipush 8, 2) := by decide +kernel
theorem dX0_leastConvincing_27 : decode cX0_leastConvincing 27 = .ok (.if_icmp .gt 33, 3) := by decide +kernel
theorem dX0_leastConvincing_30 : decode cX0_leastConvincing 30 = .ok (.iload_n 2, 1) := by decide +kernel
theorem dX0_leastConvincing_31 : decode cX0_leastConvincing 31 = .ok (.sipush 255, 3) := by decide +kernel
theorem dX0_leastConvincing_34 : decode cX0_leastConvincing 34 = .ok (.if_icmp .gt 26, 3) := by decide +kernel
theorem dX0_leastConvincing_37 : decode cX0_leastConvincing 37 = .ok (.aload_n 0, 1) := by decide +kernel
theorem dX0_leastConvincing_38 : decode cX0_leastConvincing 38 = .ok (.iload_n 1, 1) := by decide +kernel
theorem dX0_leastConvincing_39 : decode cX0_leastConvincing 39 = .ok (.iload_n 2, 1) := by decide +kernel
theorem dX0_leastConvincing_40 : decode cX0_leastConvincing 40 = .ok (.invokevirtual 114, 3) := by decide +kernel
theorem dX0_leastConvincing_43 : decode cX0_leastConvincing 43 = .ok (.ifCond .eq 5, 3) := by decide +kernel
theorem dX0_leastConvincing_46 : decode cX0_leastConvincing 46 = .ok (.iload_n 2, 1) := by decide +kernel
theorem dX0_leastConvincing_47 : decode cX0_leastConvincing 47 = .ok (.ireturn, 1) := by decide +kernel
theorem dX0_leastConvincing_48 : decode cX0_leastConvincing 48 = .ok (.iload_n 2, 1) := by decide +kernel
theorem dX0_leastConvincing_49 : decode cX0_leastConvincing 49 = .ok (.iload_n 2, 1) := by decide +kernel
theorem dX0_leastConvincing_50 : decode cX0_leastConvincing 50 = .ok (.iconst 1, 1) := by decide +kernel
theorem dX0_leastConvincing_51 : decode cX0_leastConvincing 51 = .ok (.iadd, 1) := by decide +kernel
theorem dX0_leastConvincing_52 : decode cX0_leastConvincing 52 = .ok (.ior, 1) := by decide +kernel
theorem dX0_leastConvincing_53 : decode cX0_leastConvincing 53 = .ok (.istore_n 2, 1) := by decide +kernel
theorem dX0_leastConvincing_54 : decode cX0_leastConvincing 54 = .ok (.iinc 3 1, 3) := by decide +kernel
theorem dX0_leastConvincing_57 : decode cX0_leastConvincing 57 = .ok (.goto (-33), 3) := by decide +kernel
theorem dX0_leastConvincing_60 : decode cX0_leastConvincing 60 = .ok (.iconst (-1), 1) := by decide +kernel
theorem dX0_leastConvincing_61 : decode cX0_leastConvincing 61 = .ok (.ireturn, 1) := by decide +kernel
theorem dX0_earliestDeadline_0 : decode cX0_earliestDeadline 0 = .ok (.iconst (-1), 1) := by decide +kernel
theorem dX0_earliestDeadline_1 : decode cX0_earliestDeadline 1 = .ok (.istore_n 1, 1) := by decide +kernel
theorem dX0_earliestDeadline_2 : decode cX0_earliestDeadline 2 = .ok (.iconst 0, 1) := by decide +kernel
theorem dX0_earliestDeadline_3 : decode cX0_earliestDeadline 3 = .ok (.istore_n 2, 1) := by decide +kernel
theorem dX0_earliestDeadline_4 : decode cX0_earliestDeadline 4 = .ok (.iload_n 2, 1) := by decide +kernel
theorem dX0_earliestDeadline_5 : decode cX0_earliestDeadline 5 = .ok (.aload_n 0, 1) := by decide +kernel
theorem dX0_earliestDeadline_6 : decode cX0_earliestDeadline 6 = .ok (.getfield 71, 3) := by decide +kernel
theorem dX0_earliestDeadline_9 : decode cX0_earliestDeadline 9 = .ok (.if_icmp .ge 39, 3) := by decide +kernel
theorem dX0_earliestDeadline_12 : decode cX0_earliestDeadline 12 = .ok (.aload_n 0, 1) := by decide +kernel
theorem dX0_earliestDeadline_13 : decode cX0_earliestDeadline 13 = .ok (.iload_n 2, 1) := by decide +kernel
theorem dX0_earliestDeadline_14 : decode cX0_earliestDeadline 14 = .ok (.invokevirtual 102, 3) := by decide +kernel
theorem dX0_earliestDeadline_17 : decode cX0_earliestDeadline 17 = .ok (.ifCond .ne 25, 3) := by decide +kernel
theorem dX0_earliestDeadline_20 : decode cX0_earliestDeadline 20 = .ok (.iload_n 1, 1) := by decide +kernel
theorem dX0_earliestDeadline_21 : decode cX0_earliestDeadline 21 = .ok (.iconst (-1), 1) := by decide +kernel
theorem dX0_earliestDeadline_22 : decode cX0_earliestDeadline 22 = .ok (.if_icmp .eq 13, 3) := by decide +kernel
theorem dX0_earliestDeadline_25 : decode cX0_earliestDeadline 25 = .ok (.aload_n 0, 1) := by decide +kernel
theorem dX0_earliestDeadline_26 : decode cX0_earliestDeadline 26 = .ok (.getfield 52, 3) := by decide +kernel
theorem dX0_earliestDeadline_29 : decode cX0_earliestDeadline 29 = .ok (.iload_n 2, 1) := by decide +kernel
theorem dX0_earliestDeadline_30 : decode cX0_earliestDeadline 30 = .ok (.iaload, 1) := by decide +kernel
theorem dX0_earliestDeadline_31 : decode cX0_earliestDeadline 31 = .ok (.iload_n 1, 1) := by decide +kernel
theorem dX0_earliestDeadline_32 : decode cX0_earliestDeadline 32 = .ok (.if_icmp .ge 10, 3) := by decide +kernel
theorem dX0_earliestDeadline_35 : decode cX0_earliestDeadline 35 = .ok (.aload_n 0, 1) := by decide +kernel
theorem dX0_earliestDeadline_36 : decode cX0_earliestDeadline 36 = .ok (.getfield 52, 3) := by decide +kernel
theorem dX0_earliestDeadline_39 : decode cX0_earliestDeadline 39 = .ok (.iload_n 2, 1) := by decide +kernel
theorem dX0_earliestDeadline_40 : decode cX0_earliestDeadline 40 = .ok (.iaload, 1) := by decide +kernel
theorem dX0_earliestDeadline_41 : decode cX0_earliestDeadline 41 = .ok (.istore_n 1, 1) := by decide +kernel
theorem dX0_earliestDeadline_42 : decode cX0_earliestDeadline 42 = .ok (.iinc 2 1, 3) := by decide +kernel
theorem dX0_earliestDeadline_45 : decode cX0_earliestDeadline 45 = .ok (.goto (-41), 3) := by decide +kernel
theorem dX0_earliestDeadline_48 : decode cX0_earliestDeadline 48 = .ok (.iload_n 1, 1) := by decide +kernel
theorem dX0_earliestDeadline_49 : decode cX0_earliestDeadline 49 = .ok (.ireturn, 1) := by decide +kernel
theorem dX0_disputeRate_0 : decode cX0_disputeRate 0 = .ok (.iconst 0, 1) := by decide +kernel
theorem dX0_disputeRate_1 : decode cX0_disputeRate 1 = .ok (.istore_n 2, 1) := by decide +kernel
theorem dX0_disputeRate_2 : decode cX0_disputeRate 2 = .ok (.iconst 0, 1) := by decide +kernel
theorem dX0_disputeRate_3 : decode cX0_disputeRate 3 = .ok (.istore_n 3, 1) := by decide +kernel
theorem dX0_disputeRate_4 : decode cX0_disputeRate 4 = .ok (.iload_n 3, 1) := by decide +kernel
theorem dX0_disputeRate_5 : decode cX0_disputeRate 5 = .ok (.aload_n 0, 1) := by decide +kernel
theorem dX0_disputeRate_6 : decode cX0_disputeRate 6 = .ok (.getfield 68, 3) := by decide +kernel
theorem dX0_disputeRate_9 : decode cX0_disputeRate 9 = .ok (.if_icmp .ge 35, 3) := by decide +kernel
theorem dX0_disputeRate_12 : decode cX0_disputeRate 12 = .ok (.aload_n 0, 1) := by decide +kernel
theorem dX0_disputeRate_13 : decode cX0_disputeRate 13 = .ok (.getfield 25, 3) := by decide +kernel
theorem dX0_disputeRate_16 : decode cX0_disputeRate 16 = .ok (.iload_n 3, 1) := by decide +kernel
theorem dX0_disputeRate_17 : decode cX0_disputeRate 17 = .ok (.iaload, 1) := by decide +kernel
theorem dX0_disputeRate_18 : decode cX0_disputeRate 18 = .ok (.iload_n 1, 1) := by decide +kernel
theorem dX0_disputeRate_19 : decode cX0_disputeRate 19 = .ok (.if_icmp .ne 19, 3) := by decide +kernel
theorem dX0_disputeRate_22 : decode cX0_disputeRate 22 = .ok (.aload_n 0, 1) := by decide +kernel
theorem dX0_disputeRate_23 : decode cX0_disputeRate 23 = .ok (.aload_n 0, 1) := by decide +kernel
theorem dX0_disputeRate_24 : decode cX0_disputeRate 24 = .ok (.getfield 31, 3) := by decide +kernel
theorem dX0_disputeRate_27 : decode cX0_disputeRate 27 = .ok (.iload_n 3, 1) := by decide +kernel
theorem dX0_disputeRate_28 : decode cX0_disputeRate 28 = .ok (.iaload, 1) := by decide +kernel
theorem dX0_disputeRate_29 : decode cX0_disputeRate 29 = .ok (.invokevirtual 130, 3) := by decide +kernel
theorem dX0_disputeRate_32 : decode cX0_disputeRate 32 = .ok (.ifCond .eq 6, 3) := by decide +kernel
theorem dX0_disputeRate_35 : decode cX0_disputeRate 35 = .ok (.iinc 2 1, 3) := by decide +kernel
theorem dX0_disputeRate_38 : decode cX0_disputeRate 38 = .ok (.iinc 3 1, 3) := by decide +kernel
theorem dX0_disputeRate_41 : decode cX0_disputeRate 41 = .ok (.goto (-37), 3) := by decide +kernel
theorem dX0_disputeRate_44 : decode cX0_disputeRate 44 = .ok (.iconst 0, 1) := by decide +kernel
theorem dX0_disputeRate_45 : decode cX0_disputeRate 45 = .ok (.istore_n 3, 1) := by decide +kernel
theorem dX0_disputeRate_46 : decode cX0_disputeRate 46 = .ok (.iconst 0, 1) := by decide +kernel
theorem dX0_disputeRate_47 : decode cX0_disputeRate 47 = .ok (.istore 4, 2) := by decide +kernel
theorem dX0_disputeRate_49 : decode cX0_disputeRate 49 = .ok (.iload 4, 2) := by decide +kernel
theorem dX0_disputeRate_51 : decode cX0_disputeRate 51 = .ok (.aload_n 0, 1) := by decide +kernel
theorem dX0_disputeRate_52 : decode cX0_disputeRate 52 = .ok (.getfield 71, 3) := by decide +kernel
theorem dX0_disputeRate_55 : decode cX0_disputeRate 55 = .ok (.if_icmp .ge 36, 3) := by decide +kernel
theorem dX0_disputeRate_58 : decode cX0_disputeRate 58 = .ok (.aload_n 0, 1) := by decide +kernel
theorem dX0_disputeRate_59 : decode cX0_disputeRate 59 = .ok (.iload 4, 2) := by decide +kernel
theorem dX0_disputeRate_61 : decode cX0_disputeRate 61 = .ok (.invokevirtual 133, 3) := by decide +kernel
theorem dX0_disputeRate_64 : decode cX0_disputeRate 64 = .ok (.iload_n 1, 1) := by decide +kernel
theorem dX0_disputeRate_65 : decode cX0_disputeRate 65 = .ok (.if_icmp .ne 20, 3) := by decide +kernel
theorem dX0_disputeRate_68 : decode cX0_disputeRate 68 = .ok (.aload_n 0, 1) := by decide +kernel
theorem dX0_disputeRate_69 : decode cX0_disputeRate 69 = .ok (.aload_n 0, 1) := by decide +kernel
theorem dX0_disputeRate_70 : decode cX0_disputeRate 70 = .ok (.getfield 43, 3) := by decide +kernel
theorem dX0_disputeRate_73 : decode cX0_disputeRate 73 = .ok (.iload 4, 2) := by decide +kernel
theorem dX0_disputeRate_75 : decode cX0_disputeRate 75 = .ok (.iaload, 1) := by decide +kernel
theorem dX0_disputeRate_76 : decode cX0_disputeRate 76 = .ok (.invokevirtual 130, 3) := by decide +kernel
theorem dX0_disputeRate_79 : decode cX0_disputeRate 79 = .ok (.ifCond .eq 6, 3) := by decide +kernel
theorem dX0_disputeRate_82 : decode cX0_disputeRate 82 = .ok (.iinc 3 1, 3) := by decide +kernel
theorem dX0_disputeRate_85 : decode cX0_disputeRate 85 = .ok (.iinc 4 1, 3) := by decide +kernel
theorem dX0_disputeRate_88 : decode cX0_disputeRate 88 = .ok (.goto (-39), 3) := by decide +kernel
theorem dX0_disputeRate_91 : decode cX0_disputeRate 91 = .ok (.iload_n 2, 1) := by decide +kernel
theorem dX0_disputeRate_92 : decode cX0_disputeRate 92 = .ok (.ifCond .ne 7, 3) := by decide +kernel
theorem dX0_disputeRate_95 : decode cX0_disputeRate 95 = .ok (.iconst 0, 1) := by decide +kernel
theorem dX0_disputeRate_96 : decode cX0_disputeRate 96 = .ok (.goto 10, 3) := by decide +kernel
theorem dX0_disputeRate_99 : decode cX0_disputeRate 99 = .ok (.iload_n 3, 1) := by decide +kernel
theorem dX0_disputeRate_100 : decode cX0_disputeRate 100 = .ok (.sipush 1000, 3) := by decide +kernel
theorem dX0_disputeRate_103 : decode cX0_disputeRate 103 = .ok (.imul, 1) := by decide +kernel
theorem dX0_disputeRate_104 : decode cX0_disputeRate 104 = .ok (.iload_n 2, 1) := by decide +kernel
theorem dX0_disputeRate_105 : decode cX0_disputeRate 105 = .ok (.idiv, 1) := by decide +kernel
theorem dX0_disputeRate_106 : decode cX0_disputeRate 106 = .ok (.ireturn, 1) := by decide +kernel
theorem dX0_openAmount_0 : decode cX0_openAmount 0 = .ok (.iconst 0, 1) := by decide +kernel
theorem dX0_openAmount_1 : decode cX0_openAmount 1 = .ok (.istore_n 2, 1) := by decide +kernel
theorem dX0_openAmount_2 : decode cX0_openAmount 2 = .ok (.iconst 0, 1) := by decide +kernel
theorem dX0_openAmount_3 : decode cX0_openAmount 3 = .ok (.istore_n 3, 1) := by decide +kernel
theorem dX0_openAmount_4 : decode cX0_openAmount 4 = .ok (.iload_n 3, 1) := by decide +kernel
theorem dX0_openAmount_5 : decode cX0_openAmount 5 = .ok (.aload_n 0, 1) := by decide +kernel
theorem dX0_openAmount_6 : decode cX0_openAmount 6 = .ok (.getfield 71, 3) := by decide +kernel
theorem dX0_openAmount_9 : decode cX0_openAmount 9 = .ok (.if_icmp .ge 35, 3) := by decide +kernel
theorem dX0_openAmount_12 : decode cX0_openAmount 12 = .ok (.aload_n 0, 1) := by decide +kernel
theorem dX0_openAmount_13 : decode cX0_openAmount 13 = .ok (.iload_n 3, 1) := by decide +kernel
theorem dX0_openAmount_14 : decode cX0_openAmount 14 = .ok (.invokevirtual 133, 3) := by decide +kernel
theorem dX0_openAmount_17 : decode cX0_openAmount 17 = .ok (.iload_n 1, 1) := by decide +kernel
theorem dX0_openAmount_18 : decode cX0_openAmount 18 = .ok (.if_icmp .ne 20, 3) := by decide +kernel
theorem dX0_openAmount_21 : decode cX0_openAmount 21 = .ok (.aload_n 0, 1) := by decide +kernel
theorem dX0_openAmount_22 : decode cX0_openAmount 22 = .ok (.iload_n 3, 1) := by decide +kernel
theorem dX0_openAmount_23 : decode cX0_openAmount 23 = .ok (.invokevirtual 102, 3) := by decide +kernel
theorem dX0_openAmount_26 : decode cX0_openAmount 26 = .ok (.ifCond .ne 12, 3) := by decide +kernel
theorem dX0_openAmount_29 : decode cX0_openAmount 29 = .ok (.iload_n 2, 1) := by decide +kernel
theorem dX0_openAmount_30 : decode cX0_openAmount 30 = .ok (.aload_n 0, 1) := by decide +kernel
theorem dX0_openAmount_31 : decode cX0_openAmount 31 = .ok (.getfield 40, 3) := by decide +kernel
theorem dX0_openAmount_34 : decode cX0_openAmount 34 = .ok (.iload_n 3, 1) := by decide +kernel
theorem dX0_openAmount_35 : decode cX0_openAmount 35 = .ok (.iaload, 1) := by decide +kernel
theorem dX0_openAmount_36 : decode cX0_openAmount 36 = .ok (.iadd, 1) := by decide +kernel
theorem dX0_openAmount_37 : decode cX0_openAmount 37 = .ok (.istore_n 2, 1) := by decide +kernel
theorem dX0_openAmount_38 : decode cX0_openAmount 38 = .ok (.iinc 3 1, 3) := by decide +kernel
theorem dX0_openAmount_41 : decode cX0_openAmount 41 = .ok (.goto (-37), 3) := by decide +kernel
theorem dX0_openAmount_44 : decode cX0_openAmount 44 = .ok (.iload_n 2, 1) := by decide +kernel
theorem dX0_openAmount_45 : decode cX0_openAmount 45 = .ok (.ireturn, 1) := by decide +kernel
theorem dX0_predictedAccount_0 : decode cX0_predictedAccount 0 = .ok (.aload_n 0, 1) := by decide +kernel
theorem dX0_predictedAccount_1 : decode cX0_predictedAccount 1 = .ok (.getfield 19, 3) := by decide +kernel
theorem dX0_predictedAccount_4 : decode cX0_predictedAccount 4 = .ok (.iload_n 1, 1) := by decide +kernel
theorem dX0_predictedAccount_5 : decode cX0_predictedAccount 5 = .ok (.iaload, 1) := by decide +kernel
theorem dX0_predictedAccount_6 : decode cX0_predictedAccount 6 = .ok (.istore_n 2, 1) := by decide +kernel
theorem dX0_predictedAccount_7 : decode cX0_predictedAccount 7 = .ok (.iconst 0, 1) := by decide +kernel
theorem dX0_predictedAccount_8 : decode cX0_predictedAccount 8 = .ok (.istore_n 3, 1) := by decide +kernel
theorem dX0_predictedAccount_9 : decode cX0_predictedAccount 9 = .ok (.iload_n 3, 1) := by decide +kernel
theorem dX0_predictedAccount_10 : decode cX0_predictedAccount 10 = .ok (.aload_n 0, 1) := by decide +kernel
theorem dX0_predictedAccount_11 : decode cX0_predictedAccount 11 = .ok (.getfield 71, 3) := by decide +kernel
theorem dX0_predictedAccount_14 : decode cX0_predictedAccount 14 = .ok (.if_icmp .ge 39, 3) := by decide +kernel
theorem dX0_predictedAccount_17 : decode cX0_predictedAccount 17 = .ok (.aload_n 0, 1) := by decide +kernel
theorem dX0_predictedAccount_18 : decode cX0_predictedAccount 18 = .ok (.iload_n 3, 1) := by decide +kernel
theorem dX0_predictedAccount_19 : decode cX0_predictedAccount 19 = .ok (.invokevirtual 133, 3) := by decide +kernel
theorem dX0_predictedAccount_22 : decode cX0_predictedAccount 22 = .ok (.iload_n 1, 1) := by decide +kernel
theorem dX0_predictedAccount_23 : decode cX0_predictedAccount 23 = .ok (.if_icmp .ne 24, 3) := by decide +kernel
theorem dX0_predictedAccount_26 : decode cX0_predictedAccount 26 = .ok (.aload_n 0, 1) := by decide +kernel
theorem dX0_predictedAccount_27 : decode cX0_predictedAccount 27 = .ok (.iload_n 3, 1) := by decide +kernel
theorem dX0_predictedAccount_28 : decode cX0_predictedAccount 28 = .ok (.invokevirtual 102, 3) := by decide +kernel
theorem dX0_predictedAccount_31 : decode cX0_predictedAccount 31 = .ok (.ifCond .ne 16, 3) := by decide +kernel
theorem dX0_predictedAccount_34 : decode cX0_predictedAccount 34 = .ok (.iload_n 2, 1) := by decide +kernel
theorem dX0_predictedAccount_35 : decode cX0_predictedAccount 35 = .ok (.aload_n 0, 1) := by decide +kernel
theorem dX0_predictedAccount_36 : decode cX0_predictedAccount 36 = .ok (.iload_n 3, 1) := by decide +kernel
theorem dX0_predictedAccount_37 : decode cX0_predictedAccount 37 = .ok (.aload_n 0, 1) := by decide +kernel
theorem dX0_predictedAccount_38 : decode cX0_predictedAccount 38 = .ok (.iload_n 3, 1) := by decide +kernel
theorem dX0_predictedAccount_39 : decode cX0_predictedAccount 39 = .ok (.invokevirtual 106, 3) := by decide +kernel
theorem dX0_predictedAccount_42 : decode cX0_predictedAccount 42 = .ok (.invokevirtual 98, 3) := by decide +kernel
theorem dX0_predictedAccount_45 : decode cX0_predictedAccount 45 = .ok (.iadd, 1) := by decide +kernel
theorem dX0_predictedAccount_46 : decode cX0_predictedAccount 46 = .ok (.istore_n 2, 1) := by decide +kernel
theorem dX0_predictedAccount_47 : decode cX0_predictedAccount 47 = .ok (.iinc 3 1, 3) := by decide +kernel
theorem dX0_predictedAccount_50 : decode cX0_predictedAccount 50 = .ok (.goto (-41), 3) := by decide +kernel
theorem dX0_predictedAccount_53 : decode cX0_predictedAccount 53 = .ok (.iload_n 2, 1) := by decide +kernel
theorem dX0_predictedAccount_54 : decode cX0_predictedAccount 54 = .ok (.ireturn, 1) := by decide +kernel
theorem dX0_merchantOf_0 : decode cX0_merchantOf 0 = .ok (.aload_n 0, 1) := by decide +kernel
theorem dX0_merchantOf_1 : decode cX0_merchantOf 1 = .ok (.getfield 25, 3) := by decide +kernel
theorem dX0_merchantOf_4 : decode cX0_merchantOf 4 = .ok (.aload_n 0, 1) := by decide +kernel
theorem dX0_merchantOf_5 : decode cX0_merchantOf 5 = .ok (.getfield 34, 3) := by decide +kernel
theorem dX0_merchantOf_8 : decode cX0_merchantOf 8 = .ok (.iload_n 1, 1) := by decide +kernel
theorem dX0_merchantOf_9 : decode cX0_merchantOf 9 = .ok (.iaload, 1) := by decide +kernel
theorem dX0_merchantOf_10 : decode cX0_merchantOf 10 = .ok (.iaload, 1) := by decide +kernel
theorem dX0_merchantOf_11 : decode cX0_merchantOf 11 = .ok (.ireturn, 1) := by decide +kernel
theorem dX0_isRecent_0 : decode cX0_isRecent 0 = .ok (.iload_n 1, 1) := by decide +kernel
theorem dX0_isRecent_1 : decode cX0_isRecent 1 = .ok (.aload_n 0, 1) := by decide +kernel
theorem dX0_isRecent_2 : decode cX0_isRecent 2 = .ok (.getfield 55, 3) := by decide +kernel
theorem dX0_isRecent_5 : decode cX0_isRecent 5 = .ok (.bipush 30, 2) := by decide +kernel
theorem dX0_isRecent_7 : decode cX0_isRecent 7 = .ok (.isub, 1) := by decide +kernel
theorem dX0_isRecent_8 : decode cX0_isRecent 8 = .ok (.if_icmp .le 7, 3) := by decide +kernel
theorem dX0_isRecent_11 : decode cX0_isRecent 11 = .ok (.iconst 1, 1) := by decide +kernel
theorem dX0_isRecent_12 : decode cX0_isRecent 12 = .ok (.goto 4, 3) := by decide +kernel
theorem dX0_isRecent_15 : decode cX0_isRecent 15 = .ok (.iconst 0, 1) := by decide +kernel
theorem dX0_isRecent_16 : decode cX0_isRecent 16 = .ok (.ireturn, 1) := by decide +kernel
theorem dX0_scoreWith_0 : decode cX0_scoreWith 0 = .ok (.iload_n 2, 1) := by decide +kernel
theorem dX0_scoreWith_1 : decode cX0_scoreWith 1 = .ok (.invokestatic 136, 3) := by decide +kernel
theorem dX0_scoreWith_4 : decode cX0_scoreWith 4 = .ok (.istore_n 3, 1) := by decide +kernel
theorem dX0_scoreWith_5 : decode cX0_scoreWith 5 = .ok (.iload_n 2, 1) := by decide +kernel
theorem dX0_scoreWith_6 : decode cX0_scoreWith 6 = .ok (.aload_n 0, 1) := by decide +kernel
theorem dX0_scoreWith_7 : decode cX0_scoreWith 7 = .ok (.getfield 9, 3) := by decide +kernel
theorem dX0_scoreWith_10 : decode cX0_scoreWith 10 = .ok (.getfield 124, 3) := by decide +kernel
theorem dX0_scoreWith_13 : decode cX0_scoreWith 13 = .ok (.aload_n 0, 1) := by decide +kernel
theorem dX0_scoreWith_14 : decode cX0_scoreWith 14 = .ok (.getfield 37, 3) := by decide +kernel
theorem dX0_scoreWith_17 : decode cX0_scoreWith 17 = .ok (.iload_n 1, 1) := by decide +kernel
theorem dX0_scoreWith_18 : decode cX0_scoreWith 18 = .ok (.iaload, 1) := by decide +kernel
theorem dX0_scoreWith_19 : decode cX0_scoreWith 19 = .ok (.iaload, 1) := by decide +kernel
theorem dX0_scoreWith_20 : decode cX0_scoreWith 20 = .ok (.iand, 1) := by decide +kernel
theorem dX0_scoreWith_21 : decode cX0_scoreWith 21 = .ok (.invokestatic 136, 3) := by decide +kernel
theorem dX0_scoreWith_24 : decode cX0_scoreWith 24 = .ok (.istore 4, 2) := by decide +kernel
theorem dX0_scoreWith_26 : decode cX0_scoreWith 26 = .ok (.aload_n 0, 1) := by decide +kernel
theorem dX0_scoreWith_27 : decode cX0_scoreWith 27 = .ok (.getfield 43, 3) := by decide +kernel
theorem dX0_scoreWith_30 : decode cX0_scoreWith 30 = .ok (.iload_n 1, 1) := by decide +kernel
theorem dX0_scoreWith_31 : decode cX0_scoreWith 31 = .ok (.iaload, 1) := by decide +kernel
theorem dX0_scoreWith_32 : decode cX0_scoreWith 32 = .ok (.aload_n 0, 1) := by decide +kernel
theorem dX0_scoreWith_33 : decode cX0_scoreWith 33 = .ok (.getfield 31, 3) := by decide +kernel
theorem dX0_scoreWith_36 : decode cX0_scoreWith 36 = .ok (.aload_n 0, 1) := by decide +kernel
theorem dX0_scoreWith_37 : decode cX0_scoreWith 37 = .ok (.getfield 34, 3) := by decide +kernel
theorem dX0_scoreWith_40 : decode cX0_scoreWith 40 = .ok (.iload_n 1, 1) := by decide +kernel
theorem dX0_scoreWith_41 : decode cX0_scoreWith 41 = .ok (.iaload, 1) := by decide +kernel
theorem dX0_scoreWith_42 : decode cX0_scoreWith 42 = .ok (.iaload, 1) := by decide +kernel
theorem dX0_scoreWith_43 : decode cX0_scoreWith 43 = .ok (.isub, 1) := by decide +kernel
theorem dX0_scoreWith_44 : decode cX0_scoreWith 44 = .ok (.istore 5, 2) := by decide +kernel
theorem dX0_scoreWith_46 : decode cX0_scoreWith 46 = .ok (.aload_n 0, 1) := by decide +kernel
theorem dX0_scoreWith_47 : decode cX0_scoreWith 47 = .ok (.getfield 9, 3) := by decide +kernel
theorem dX0_scoreWith_50 : decode cX0_scoreWith 50 = .ok (.getfield 141, 3) := by decide +kernel
theorem dX0_scoreWith_53 : decode cX0_scoreWith 53 = .ok (.iload_n 3, 1) := by decide +kernel
theorem dX0_scoreWith_54 : decode cX0_scoreWith 54 = .ok (.iload 4, 2) := by decide +kernel
theorem dX0_scoreWith_56 : decode cX0_scoreWith 56 = .ok (.aload_n 0, 1) := by decide +kernel
theorem dX0_scoreWith_57 : decode cX0_scoreWith 57 = .ok (.getfield 40, 3) := by decide +kernel
theorem dX0_scoreWith_60 : decode cX0_scoreWith 60 = .ok (.iload_n 1, 1) := by decide +kernel
theorem dX0_scoreWith_61 : decode cX0_scoreWith 61 = .ok (.iaload, 1) := by decide +kernel
theorem dX0_scoreWith_62 : decode cX0_scoreWith 62 = .ok (.iload 5, 2) := by decide +kernel
theorem dX0_scoreWith_64 : decode cX0_scoreWith 64 = .ok (.invokevirtual 145, 3) := by decide +kernel
theorem dX0_scoreWith_67 : decode cX0_scoreWith 67 = .ok (.ireturn, 1) := by decide +kernel
theorem dX0_merchantGain_0 : decode cX0_merchantGain 0 = .ok (.iload_n 2, 1) := by decide +kernel
theorem dX0_merchantGain_1 : decode cX0_merchantGain 1 = .ok (.iconst 5, 1) := by decide +kernel
theorem dX0_merchantGain_2 : decode cX0_merchantGain 2 = .ok (.if_icmp .ne 32, 3) := by decide +kernel
theorem dX0_merchantGain_5 : decode cX0_merchantGain 5 = .ok (.aload_n 0, 1) := by decide +kernel
theorem dX0_merchantGain_6 : decode cX0_merchantGain 6 = .ok (.iload_n 1, 1) := by decide +kernel
theorem dX0_merchantGain_7 : decode cX0_merchantGain 7 = .ok (.invokevirtual 151, 3) := by decide +kernel
theorem dX0_merchantGain_10 : decode cX0_merchantGain 10 = .ok (.ifCond .eq 7, 3) := by decide +kernel
theorem dX0_merchantGain_13 : decode cX0_merchantGain 13 = .ok (.iconst 0, 1) := by decide +kernel
theorem dX0_merchantGain_14 : decode cX0_merchantGain 14 = .ok (.goto 9, 3) := by decide +kernel
theorem dX0_merchantGain_17 : decode cX0_merchantGain 17 = .ok (.aload_n 0, 1) := by decide +kernel
theorem dX0_merchantGain_18 : decode cX0_merchantGain 18 = .ok (.getfield 40, 3) := by decide +kernel
theorem dX0_merchantGain_21 : decode cX0_merchantGain 21 = .ok (.iload_n 1, 1) := by decide +kernel
theorem dX0_merchantGain_22 : decode cX0_merchantGain 22 = .ok (.iaload, 1) := by decide +kernel
theorem dX0_merchantGain_23 : decode cX0_merchantGain 23 = .ok (.istore_n 3, 1) := by decide +kernel
theorem dX0_merchantGain_24 : decode cX0_merchantGain 24 = .ok (.iload_n 3, 1) := by decide +kernel
theorem dX0_merchantGain_25 : decode cX0_merchantGain 25 = .ok (.aload_n 0, 1) := by decide +kernel
theorem dX0_merchantGain_26 : decode cX0_merchantGain 26 = .ok (.getfield 9, 3) := by decide +kernel
theorem dX0_merchantGain_29 : decode cX0_merchantGain 29 = .ok (.getfield 89, 3) := by decide +kernel
theorem dX0_merchantGain_32 : decode cX0_merchantGain 32 = .ok (.iadd, 1) := by decide +kernel
theorem dX0_merchantGain_33 : decode cX0_merchantGain 33 = .ok (.ireturn, 1) := by decide +kernel
theorem dX0_merchantGain_34 : decode cX0_merchantGain 34 = .ok (.aload_n 0, 1) := by decide +kernel
theorem dX0_merchantGain_35 : decode cX0_merchantGain 35 = .ok (.iload_n 1, 1) := by decide +kernel
theorem dX0_merchantGain_36 : decode cX0_merchantGain 36 = .ok (.invokevirtual 151, 3) := by decide +kernel
theorem dX0_merchantGain_39 : decode cX0_merchantGain 39 = .ok (.ifCond .eq 12, 3) := by decide +kernel
theorem dX0_merchantGain_42 : decode cX0_merchantGain 42 = .ok (.aload_n 0, 1) := by decide +kernel
theorem dX0_merchantGain_43 : decode cX0_merchantGain 43 = .ok (.getfield 40, 3) := by decide +kernel
theorem dX0_merchantGain_46 : decode cX0_merchantGain 46 = .ok (.iload_n 1, 1) := by decide +kernel
theorem dX0_merchantGain_47 : decode cX0_merchantGain 47 = .ok (.iaload, 1) := by decide +kernel
theorem dX0_merchantGain_48 : decode cX0_merchantGain 48 = .ok (.goto 4, 3) := by decide +kernel
theorem dX0_merchantGain_51 : decode cX0_merchantGain 51 = .ok (.iconst 0, 1) := by decide +kernel
theorem dX0_merchantGain_52 : decode cX0_merchantGain 52 = .ok (.istore_n 3, 1) := by decide +kernel
theorem dX0_merchantGain_53 : decode cX0_merchantGain 53 = .ok (.aload_n 0, 1) := by decide +kernel
theorem dX0_merchantGain_54 : decode cX0_merchantGain 54 = .ok (.getfield 49, 3) := by decide +kernel
theorem dX0_merchantGain_57 : decode cX0_merchantGain 57 = .ok (.iload_n 1, 1) := by decide +kernel
theorem dX0_merchantGain_58 : decode cX0_merchantGain 58 = .ok (.iaload, 1) := by decide +kernel
theorem dX0_merchantGain_59 : decode cX0_merchantGain 59 = .ok (.iconst 3, 1) := by decide +kernel
theorem dX0_merchantGain_60 : decode cX0_merchantGain 60 = .ok (.if_icmp .ne 13, 3) := by decide +kernel
theorem dX0_merchantGain_63 : decode cX0_merchantGain 63 = .ok (.aload_n 0, 1) := by decide +kernel
theorem dX0_merchantGain_64 : decode cX0_merchantGain 64 = .ok (.getfield 9, 3) := by decide +kernel
theorem dX0_merchantGain_67 : decode cX0_merchantGain 67 = .ok (.getfield 95, 3) := by decide +kernel
theorem dX0_merchantGain_70 : decode cX0_merchantGain 70 = .ok (.goto 4, 3) := by decide +kernel
theorem dX0_merchantGain_73 : decode cX0_merchantGain 73 = .ok (.iconst 0, 1) := by decide +kernel
theorem dX0_merchantGain_74 : decode cX0_merchantGain 74 = .ok (.istore 4, 2) := by decide +kernel
theorem dX0_merchantGain_76 : decode cX0_merchantGain 76 = .ok (.iload_n 3, 1) := by decide +kernel
theorem dX0_merchantGain_77 : decode cX0_merchantGain 77 = .ok (.ineg, 1) := by decide +kernel
theorem dX0_merchantGain_78 : decode cX0_merchantGain 78 = .ok (.iload 4, 2) := by decide +kernel
theorem dX0_merchantGain_80 : decode cX0_merchantGain 80 = .ok (.isub, 1) := by decide +kernel
theorem dX0_merchantGain_81 : decode cX0_merchantGain 81 = .ok (.ireturn, 1) := by decide +kernel
theorem dX0_moveMoney_0 : decode cX0_moveMoney 0 = .ok (.aload_n 0, 1) := by decide +kernel
theorem dX0_moveMoney_1 : decode cX0_moveMoney 1 = .ok (.getfield 19, 3) := by decide +kernel
theorem dX0_moveMoney_4 : decode cX0_moveMoney 4 = .ok (.aload_n 0, 1) := by decide +kernel
theorem dX0_moveMoney_5 : decode cX0_moveMoney 5 = .ok (.getfield 25, 3) := by decide +kernel
theorem dX0_moveMoney_8 : decode cX0_moveMoney 8 = .ok (.iload_n 1, 1) := by decide +kernel
theorem dX0_moveMoney_9 : decode cX0_moveMoney 9 = .ok (.iaload, 1) := by decide +kernel
theorem dX0_moveMoney_10 : decode cX0_moveMoney 10 = .ok (.dup2, 1) := by decide +kernel
theorem dX0_moveMoney_11 : decode cX0_moveMoney 11 = .ok (.iaload, 1) := by decide +kernel
theorem dX0_moveMoney_12 : decode cX0_moveMoney 12 = .ok (.iload_n 2, 1) := by decide +kernel
theorem dX0_moveMoney_13 : decode cX0_moveMoney 13 = .ok (.iadd, 1) := by decide +kernel
theorem dX0_moveMoney_14 : decode cX0_moveMoney 14 = .ok (.iastore, 1) := by decide +kernel
theorem dX0_moveMoney_15 : decode cX0_moveMoney 15 = .ok (.aload_n 0, 1) := by decide +kernel
theorem dX0_moveMoney_16 : decode cX0_moveMoney 16 = .ok (.dup, 1) := by decide +kernel
theorem dX0_moveMoney_17 : decode cX0_moveMoney 17 = .ok (.getfield 65, 3) := by decide +kernel
theorem dX0_moveMoney_20 : decode cX0_moveMoney 20 = .ok (.iload_n 3, 1) := by decide +kernel
theorem dX0_moveMoney_21 : decode cX0_moveMoney 21 = .ok (.iadd, 1) := by decide +kernel
theorem dX0_moveMoney_22 : decode cX0_moveMoney 22 = .ok (.putfield 65, 3) := by decide +kernel
theorem dX0_moveMoney_25 : decode cX0_moveMoney 25 = .ok (.aload_n 0, 1) := by decide +kernel
theorem dX0_moveMoney_26 : decode cX0_moveMoney 26 = .ok (.getfield 15, 3) := by decide +kernel
theorem dX0_moveMoney_29 : decode cX0_moveMoney 29 = .ok (.aload_n 0, 1) := by decide +kernel
theorem dX0_moveMoney_30 : decode cX0_moveMoney 30 = .ok (.getfield 22, 3) := by decide +kernel
theorem dX0_moveMoney_33 : decode cX0_moveMoney 33 = .ok (.iload_n 1, 1) := by decide +kernel
theorem dX0_moveMoney_34 : decode cX0_moveMoney 34 = .ok (.iaload, 1) := by decide +kernel
theorem dX0_moveMoney_35 : decode cX0_moveMoney 35 = .ok (.dup2, 1) := by decide +kernel
theorem dX0_moveMoney_36 : decode cX0_moveMoney 36 = .ok (.iaload, 1) := by decide +kernel
theorem dX0_moveMoney_37 : decode cX0_moveMoney 37 = .ok (.iload_n 2, 1) := by decide +kernel
theorem dX0_moveMoney_38 : decode cX0_moveMoney 38 = .ok (.iload_n 3, 1) := by decide +kernel
theorem dX0_moveMoney_39 : decode cX0_moveMoney 39 = .ok (.iadd, 1) := by decide +kernel
theorem dX0_moveMoney_40 : decode cX0_moveMoney 40 = .ok (.isub, 1) := by decide +kernel
theorem dX0_moveMoney_41 : decode cX0_moveMoney 41 = .ok (.iastore, 1) := by decide +kernel
theorem dX0_moveMoney_42 : decode cX0_moveMoney 42 = .ok (.return_, 1) := by decide +kernel
