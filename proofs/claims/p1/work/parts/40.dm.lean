theorem dX10_init_0 : decode cX10_init 0 = .ok (.aload_n 0, 1) := by decide +kernel
theorem dX10_init_1 : decode cX10_init 1 = .ok (.invokespecial 1, 3) := by decide +kernel
theorem dX10_init_4 : decode cX10_init 4 = .ok (.aload_n 0, 1) := by decide +kernel
theorem dX10_init_5 : decode cX10_init 5 = .ok (.bipush 7, 2) := by decide +kernel
theorem dX10_init_7 : decode cX10_init 7 = .ok (.newarray .int, 2) := by decide +kernel
theorem dX10_init_9 : decode cX10_init 9 = .ok (.putfield 7, 3) := by decide +kernel
theorem dX10_init_12 : decode cX10_init 12 = .ok (.aload_n 0, 1) := by decide +kernel
theorem dX10_init_13 : decode cX10_init 13 = .ok (.bipush 9, 2) := by decide +kernel
theorem dX10_init_15 : decode cX10_init 15 = .ok (.newarray .int, 2) := by decide +kernel
theorem dX10_init_17 : decode cX10_init 17 = .ok (.dup, 1) := by decide +kernel
theorem dX10_init_18 : decode cX10_init 18 = .ok (.iconst 0, 1) := by decide +kernel
theorem dX10_init_19 : decode cX10_init 19 = .ok (.iconst 0, 1) := by decide +kernel
theorem dX10_init_20 : decode cX10_init 20 = .ok (.iastore, 1) := by decide +kernel
theorem dX10_init_21 : decode cX10_init 21 = .ok (.dup, 1) := by decide +kernel
theorem dX10_init_22 : decode cX10_init 22 = .ok (.iconst 1, 1) := by decide +kernel
theorem dX10_init_23 : decode cX10_init 23 = .ok (.iconst 0, 1) := by decide +kernel
theorem dX10_init_24 : decode cX10_init 24 = .ok (.iastore, 1) := by decide +kernel
theorem dX10_init_25 : decode cX10_init 25 = .ok (.dup, 1) := by decide +kernel
theorem dX10_init_26 : decode cX10_init 26 = .ok (.iconst 2, 1) := by decide +kernel
theorem dX10_init_27 : decode cX10_init 27 = .ok (.iconst 0, 1) := by decide +kernel
theorem dX10_init_28 : decode cX10_init 28 = .ok (.iastore, 1) := by decide +kernel
theorem dX10_init_29 : decode cX10_init 29 = .ok (.dup, 1) := by decide +kernel
theorem dX10_init_30 : decode cX10_init 30 = .ok (.iconst 3, 1) := by decide +kernel
theorem dX10_init_31 : decode cX10_init 31 = .ok (.iconst 5, 1) := by decide +kernel
theorem dX10_init_32 : decode cX10_init 32 = .ok (.iastore, 1) := by decide +kernel
theorem dX10_init_33 : decode cX10_init 33 = .ok (.dup, 1) := by decide +kernel
theorem dX10_init_34 : decode cX10_init 34 = .ok (.iconst 4, 1) := by decide +kernel
theorem dX10_init_35 : decode cX10_init 35 = .ok (.bipush 9, 2) := by decide +kernel
theorem dX10_init_37 : decode cX10_init 37 = .ok (.iastore, 1) := by decide +kernel
theorem dX10_init_38 : decode cX10_init 38 = .ok (.dup, 1) := by decide +kernel
theorem dX10_init_39 : decode cX10_init 39 = .ok (.iconst 5, 1) := by decide +kernel
theorem dX10_init_40 : decode cX10_init 40 = .ok (.iconst 0, 1) := by decide +kernel
theorem dX10_init_41 : decode cX10_init 41 = .ok (.iastore, 1) := by decide +kernel
theorem dX10_init_42 : decode cX10_init 42 = .ok (.dup, 1) := by decide +kernel
theorem dX10_init_43 : decode cX10_init 43 = .ok (.bipush 6, 2) := by decide +kernel
theorem dX10_init_45 : decode cX10_init 45 = .ok (.iconst 0, 1) := by decide +kernel
theorem dX10_init_46 : decode cX10_init 46 = .ok (.iastore, 1) := by decide +kernel
theorem dX10_init_47 : decode cX10_init 47 = .ok (.dup, 1) := by decide +kernel
theorem dX10_init_48 : decode cX10_init 48 = .ok (.bipush 7, 2) := by decide +kernel
theorem dX10_init_50 : decode cX10_init 50 = .ok (.iconst 1, 1) := by decide +kernel
theorem dX10_init_51 : decode cX10_init 51 = .ok (.iastore, 1) := by decide +kernel
theorem dX10_init_52 : decode cX10_init 52 = .ok (.dup, 1) := by decide +kernel
theorem dX10_init_53 : decode cX10_init 53 = .ok (.bipush 8, 2) := by decide +kernel
theorem dX10_init_55 : decode cX10_init 55 = .ok (.iconst 0, 1) := by decide +kernel
theorem dX10_init_56 : decode cX10_init 56 = .ok (.iastore, 1) := by decide +kernel
theorem dX10_init_57 : decode cX10_init 57 = .ok (.putfield 13, 3) := by decide +kernel
theorem dX10_init_60 : decode cX10_init 60 = .ok (.aload_n 0, 1) := by decide +kernel
theorem dX10_init_61 : decode cX10_init 61 = .ok (.iconst 5, 1) := by decide +kernel
theorem dX10_init_62 : decode cX10_init 62 = .ok (.newarray .int, 2) := by decide +kernel
theorem dX10_init_64 : decode cX10_init 64 = .ok (.putfield 16, 3) := by decide +kernel
theorem dX10_init_67 : decode cX10_init 67 = .ok (.aload_n 0, 1) := by decide +kernel
theorem dX10_init_68 : decode cX10_init 68 = .ok (.bipush 6, 2) := by decide +kernel
theorem dX10_init_70 : decode cX10_init 70 = .ok (.newarray .int, 2) := by decide +kernel
theorem dX10_init_72 : decode cX10_init 72 = .ok (.putfield 19, 3) := by decide +kernel
theorem dX10_init_75 : decode cX10_init 75 = .ok (.aload_n 0, 1) := by decide +kernel
theorem dX10_init_76 : decode cX10_init 76 = .ok (.bipush 6, 2) := by decide +kernel
theorem dX10_init_78 : decode cX10_init 78 = .ok (.newarray .int, 2) := by decide +kernel
theorem dX10_init_80 : decode cX10_init 80 = .ok (.putfield 22, 3) := by decide +kernel
theorem dX10_init_83 : decode cX10_init 83 = .ok (.aload_n 0, 1) := by decide +kernel
theorem dX10_init_84 : decode cX10_init 84 = .ok (.iconst 5, 1) := by decide +kernel
theorem dX10_init_85 : decode cX10_init 85 = .ok (.newarray .int, 2) := by decide +kernel
theorem dX10_init_87 : decode cX10_init 87 = .ok (.putfield 25, 3) := by decide +kernel
theorem dX10_init_90 : decode cX10_init 90 = .ok (.aload_n 0, 1) := by decide +kernel
theorem dX10_init_91 : decode cX10_init 91 = .ok (.iconst 5, 1) := by decide +kernel
theorem dX10_init_92 : decode cX10_init 92 = .ok (.newarray .int, 2) := by decide +kernel
theorem dX10_init_94 : decode cX10_init 94 = .ok (.putfield 28, 3) := by decide +kernel
theorem dX10_init_97 : decode cX10_init 97 = .ok (.aload_n 0, 1) := by decide +kernel
theorem dX10_init_98 : decode cX10_init 98 = .ok (.bipush 9, 2) := by decide +kernel
theorem dX10_init_100 : decode cX10_init 100 = .ok (.newarray .int, 2) := by decide +kernel
theorem dX10_init_102 : decode cX10_init 102 = .ok (.putfield 31, 3) := by decide +kernel
theorem dX10_init_105 : decode cX10_init 105 = .ok (.aload_n 0, 1) := by decide +kernel
theorem dX10_init_106 : decode cX10_init 106 = .ok (.iconst 5, 1) := by decide +kernel
theorem dX10_init_107 : decode cX10_init 107 = .ok (.newarray .int, 2) := by decide +kernel
theorem dX10_init_109 : decode cX10_init 109 = .ok (.putfield 34, 3) := by decide +kernel
theorem dX10_init_112 : decode cX10_init 112 = .ok (.aload_n 0, 1) := by decide +kernel
theorem dX10_init_113 : decode cX10_init 113 = .ok (.bipush 6, 2) := by decide +kernel
theorem dX10_init_115 : decode cX10_init 115 = .ok (.newarray .int, 2) := by decide +kernel
theorem dX10_init_117 : decode cX10_init 117 = .ok (.putfield 37, 3) := by decide +kernel
theorem dX10_init_120 : decode cX10_init 120 = .ok (.aload_n 0, 1) := by decide +kernel
theorem dX10_init_121 : decode cX10_init 121 = .ok (.bipush 6, 2) := by decide +kernel
theorem dX10_init_123 : decode cX10_init 123 = .ok (.newarray .int, 2) := by decide +kernel
theorem dX10_init_125 : decode cX10_init 125 = .ok (.putfield 40, 3) := by decide +kernel
theorem dX10_init_128 : decode cX10_init 128 = .ok (.aload_n 0, 1) := by decide +kernel
theorem dX10_init_129 : decode cX10_init 129 = .ok (.iconst 5, 1) := by decide +kernel
theorem dX10_init_130 : decode cX10_init 130 = .ok (.newarray .int, 2) := by decide +kernel
theorem dX10_init_132 : decode cX10_init 132 = .ok (.putfield 43, 3) := by decide +kernel
theorem dX10_init_135 : decode cX10_init 135 = .ok (.aload_n 0, 1) := by decide +kernel
theorem dX10_init_136 : decode cX10_init 136 = .ok (.iconst 5, 1) := by decide +kernel
theorem dX10_init_137 : decode cX10_init 137 = .ok (.newarray .int, 2) := by decide +kernel
theorem dX10_init_139 : decode cX10_init 139 = .ok (.putfield 46, 3) := by decide +kernel
theorem dX10_init_142 : decode cX10_init 142 = .ok (.aload_n 0, 1) := by decide +kernel
theorem dX10_init_143 : decode cX10_init 143 = .ok (.bipush 64, 2) := by decide +kernel
theorem dX10_init_145 : decode cX10_init 145 = .ok (.newarray .int, 2) := by decide +kernel
theorem dX10_init_147 : decode cX10_init 147 = .ok (.putfield 49, 3) := by decide +kernel
theorem dX10_init_150 : decode cX10_init 150 = .ok (.aload_n 0, 1) := by decide +kernel
theorem dX10_init_151 : decode cX10_init 151 = .ok (.bipush 7, 2) := by decide +kernel
theorem dX10_init_153 : decode cX10_init 153 = .ok (.newarray .char, 2) := by decide +kernel
theorem dX10_init_155 : decode cX10_init 155 = .ok (.dup, 1) := by decide +kernel
theorem dX10_init_156 : decode cX10_init 156 = .ok (.iconst 0, 1) := by decide +kernel
theorem dX10_init_157 : decode cX10_init 157 = .ok (.bipush 112, 2) := by decide +kernel
theorem dX10_init_159 : decode cX10_init 159 = .ok (.castore, 1) := by decide +kernel
theorem dX10_init_160 : decode cX10_init 160 = .ok (.dup, 1) := by decide +kernel
theorem dX10_init_161 : decode cX10_init 161 = .ok (.iconst 1, 1) := by decide +kernel
theorem dX10_init_162 : decode cX10_init 162 = .ok (.bipush 108, 2) := by decide +kernel
theorem dX10_init_164 : decode cX10_init 164 = .ok (.castore, 1) := by decide +kernel
theorem dX10_init_165 : decode cX10_init 165 = .ok (.dup, 1) := by decide +kernel
theorem dX10_init_166 : decode cX10_init 166 = .ok (.iconst 2, 1) := by decide +kernel
theorem dX10_init_167 : decode cX10_init 167 = .ok (.bipush 109, 2) := by decide +kernel
theorem dX10_init_169 : decode cX10_init 169 = .ok (.castore, 1) := by decide +kernel
theorem dX10_init_170 : decode cX10_init 170 = .ok (.dup, 1) := by decide +kernel
theorem dX10_init_171 : decode cX10_init 171 = .ok (.iconst 3, 1) := by decide +kernel
theorem dX10_init_172 : decode cX10_init 172 = .ok (.bipush 107, 2) := by decide +kernel
theorem dX10_init_174 : decode cX10_init 174 = .ok (.castore, 1) := by decide +kernel
theorem dX10_init_175 : decode cX10_init 175 = .ok (.dup, 1) := by decide +kernel
theorem dX10_init_176 : decode cX10_init 176 = .ok (.iconst 4, 1) := by decide +kernel
theorem dX10_init_177 : decode cX10_init 177 = .ok (.bipush 98, 2) := by decide +kernel
theorem dX10_init_179 : decode cX10_init 179 = .ok (.castore, 1) := by decide +kernel
theorem dX10_init_180 : decode cX10_init 180 = .ok (.dup, 1) := by decide +kernel
theorem dX10_init_181 : decode cX10_init 181 = .ok (.iconst 5, 1) := by decide +kernel
theorem dX10_init_182 : decode cX10_init 182 = .ok (.bipush 99, 2) := by decide +kernel
theorem dX10_init_184 : decode cX10_init 184 = .ok (.castore, 1) := by decide +kernel
theorem dX10_init_185 : decode cX10_init 185 = .ok (.dup, 1) := by decide +kernel
theorem dX10_init_186 : decode cX10_init 186 = .ok (.bipush 6, 2) := by decide +kernel
theorem dX10_init_188 : decode cX10_init 188 = .ok (.bipush 115, 2) := by decide +kernel
theorem dX10_init_190 : decode cX10_init 190 = .ok (.castore, 1) := by decide +kernel
theorem dX10_init_191 : decode cX10_init 191 = .ok (.putfield 52, 3) := by decide +kernel
theorem dX10_init_194 : decode cX10_init 194 = .ok (.aload_n 0, 1) := by decide +kernel
theorem dX10_init_195 : decode cX10_init 195 = .ok (.iconst 2, 1) := by decide +kernel
theorem dX10_init_196 : decode cX10_init 196 = .ok (.newarray .char, 2) := by decide +kernel
theorem dX10_init_198 : decode cX10_init 198 = .ok (.dup, 1) := by decide +kernel
theorem dX10_init_199 : decode cX10_init 199 = .ok (.iconst 0, 1) := by decide +kernel
theorem dX10_init_200 : decode cX10_init 200 = .ok (.bipush 43, 2) := by decide +kernel
theorem dX10_init_202 : decode cX10_init 202 = .ok (.castore, 1) := by decide +kernel
theorem dX10_init_203 : decode cX10_init 203 = .ok (.dup, 1) := by decide +kernel
theorem dX10_init_204 : decode cX10_init 204 = .ok (.iconst 1, 1) := by decide +kernel
theorem dX10_init_205 : decode cX10_init 205 = .ok (.bipush 45, 2) := by decide +kernel
theorem dX10_init_207 : decode cX10_init 207 = .ok (.castore, 1) := by decide +kernel
theorem dX10_init_208 : decode cX10_init 208 = .ok (.putfield 56, 3) := by decide +kernel
theorem dX10_init_211 : decode cX10_init 211 = .ok (.aload_n 0, 1) := by decide +kernel
theorem dX10_init_212 : decode cX10_init 212 = .ok (.iconst 5, 1) := by decide +kernel
theorem dX10_init_213 : decode cX10_init 213 = .ok (.newarray .int, 2) := by decide +kernel
theorem dX10_init_215 : decode cX10_init 215 = .ok (.putfield 59, 3) := by decide +kernel
theorem dX10_init_218 : decode cX10_init 218 = .ok (.aload_n 0, 1) := by decide +kernel
theorem dX10_init_219 : decode cX10_init 219 = .ok (.iconst 5, 1) := by decide +kernel
theorem dX10_init_220 : decode cX10_init 220 = .ok (.newarray .int, 2) := by decide +kernel
theorem dX10_init_222 : decode cX10_init 222 = .ok (.putfield 62, 3) := by decide +kernel
theorem dX10_init_225 : decode cX10_init 225 = .ok (.aload_n 0, 1) := by decide +kernel
theorem dX10_init_226 : decode cX10_init 226 = .ok (.iconst 5, 1) := by decide +kernel
theorem dX10_init_227 : decode cX10_init 227 = .ok (.newarray .int, 2) := by decide +kernel
theorem dX10_init_229 : decode cX10_init 229 = .ok (.putfield 65, 3) := by decide +kernel
theorem dX10_init_232 : decode cX10_init 232 = .ok (.aload_n 0, 1) := by decide +kernel
theorem dX10_init_233 : decode cX10_init 233 = .ok (.sipush 3840, 3) := by decide +kernel
theorem dX10_init_236 : decode cX10_init 236 = .ok (.newarray .int, 2) := by decide +kernel
theorem dX10_init_238 : decode cX10_init 238 = .ok (.putfield 68, 3) := by decide +kernel
theorem dX10_init_241 : decode cX10_init 241 = .ok (.aload_n 0, 1) := by decide +kernel
theorem dX10_init_242 : decode cX10_init 242 = .ok (.sipush 3840, 3) := by decide +kernel
theorem dX10_init_245 : decode cX10_init 245 = .ok (.newarray .int, 2) := by decide +kernel
theorem dX10_init_247 : decode cX10_init 247 = .ok (.putfield 71, 3) := by decide +kernel
theorem dX10_init_250 : decode cX10_init 250 = .ok (.aload_n 0, 1) := by decide +kernel
theorem dX10_init_251 : decode cX10_init 251 = .ok (.sipush 3840, 3) := by decide +kernel
theorem dX10_init_254 : decode cX10_init 254 = .ok (.newarray .int, 2) := by decide +kernel
theorem dX10_init_256 : decode cX10_init 256 = .ok (.putfield 74, 3) := by decide +kernel
theorem dX10_init_259 : decode cX10_init 259 = .ok (.aload_n 0, 1) := by decide +kernel
theorem dX10_init_260 : decode cX10_init 260 = .ok (.sipush 3840, 3) := by decide +kernel
theorem dX10_init_263 : decode cX10_init 263 = .ok (.newarray .int, 2) := by decide +kernel
theorem dX10_init_265 : decode cX10_init 265 = .ok (.putfield 77, 3) := by decide +kernel
theorem dX10_init_268 : decode cX10_init 268 = .ok (.aload_n 0, 1) := by decide +kernel
theorem dX10_init_269 : decode cX10_init 269 = .ok (.bipush 8, 2) := by decide +kernel
theorem dX10_init_271 : decode cX10_init 271 = .ok (.newarray .int, 2) := by decide +kernel
theorem dX10_init_273 : decode cX10_init 273 = .ok (.putfield 80, 3) := by decide +kernel
theorem dX10_init_276 : decode cX10_init 276 = .ok (.aload_n 0, 1) := by decide +kernel
theorem dX10_init_277 : decode cX10_init 277 = .ok (.iconst 3, 1) := by decide +kernel
theorem dX10_init_278 : decode cX10_init 278 = .ok (.newarray .int, 2) := by decide +kernel
theorem dX10_init_280 : decode cX10_init 280 = .ok (.putfield 83, 3) := by decide +kernel
theorem dX10_init_283 : decode cX10_init 283 = .ok (.return_, 1) := by decide +kernel
theorem dX10_no_0 : decode cX10_no 0 = .ok (.aload_n 0, 1) := by decide +kernel
theorem dX10_no_1 : decode cX10_no 1 = .ok (.getfield 7, 3) := by decide +kernel
theorem dX10_no_4 : decode cX10_no 4 = .ok (.iload_n 1, 1) := by decide +kernel
theorem dX10_no_5 : decode cX10_no 5 = .ok (.ineg, 1) := by decide +kernel
theorem dX10_no_6 : decode cX10_no 6 = .ok (.dup2, 1) := by decide +kernel
theorem dX10_no_7 : decode cX10_no 7 = .ok (.iaload, 1) := by decide +kernel
theorem dX10_no_8 : decode cX10_no 8 = .ok (.iconst 1, 1) := by decide +kernel
theorem dX10_no_9 : decode cX10_no 9 = .ok (.iadd, 1) := by decide +kernel
theorem dX10_no_10 : decode cX10_no 10 = .ok (.iastore, 1) := by decide +kernel
theorem dX10_no_11 : decode cX10_no 11 = .ok (.iload_n 1, 1) := by decide +kernel
theorem dX10_no_12 : decode cX10_no 12 = .ok (.ireturn, 1) := by decide +kernel
theorem dX10_copy_0 : decode cX10_copy 0 = .ok (.iconst 0, 1) := by decide +kernel
theorem dX10_copy_1 : decode cX10_copy 1 = .ok (.istore_n 2, 1) := by decide +kernel
theorem dX10_copy_2 : decode cX10_copy 2 = .ok (.iload_n 2, 1) := by decide +kernel
theorem dX10_copy_3 : decode cX10_copy 3 = .ok (.aload_n 0, 1) := by decide +kernel
theorem dX10_copy_4 : decode cX10_copy 4 = .ok (.arraylength, 1) := by decide +kernel
theorem dX10_copy_5 : decode cX10_copy 5 = .ok (.if_icmp .ge 15, 3) := by decide +kernel
theorem dX10_copy_8 : decode cX10_copy 8 = .ok (.aload_n 1, 1) := by decide +kernel
theorem dX10_copy_9 : decode cX10_copy 9 = .ok (.iload_n 2, 1) := by decide +kernel
theorem dX10_copy_10 : decode cX10_copy 10 = .ok (.aload_n 0, 1) := by decide +kernel
theorem dX10_copy_11 : decode cX10_copy 11 = .ok (.iload_n 2, 1) := by decide +kernel
theorem dX10_copy_12 : decode cX10_copy 12 = .ok (.iaload, 1) := by decide +kernel
theorem dX10_copy_13 : decode cX10_copy 13 = .ok (.iastore, 1) := by decide +kernel
theorem dX10_copy_14 : decode cX10_copy 14 = .ok (.iinc 2 1, 3) := by decide +kernel
theorem dX10_copy_17 : decode cX10_copy 17 = .ok (.goto (-15), 3) := by decide +kernel
theorem dX10_copy_20 : decode cX10_copy 20 = .ok (.return_, 1) := by decide +kernel
theorem dX10_image_0 : decode cX10_image 0 = .ok (.aload_n 0, 1) := by decide +kernel
theorem dX10_image_1 : decode cX10_image 1 = .ok (.iconst 1, 1) := by decide +kernel
theorem dX10_image_2 : decode cX10_image 2 = .ok (.putfield 86, 3) := by decide +kernel
theorem dX10_image_5 : decode cX10_image 5 = .ok (.aload_n 0, 1) := by decide +kernel
theorem dX10_image_6 : decode cX10_image 6 = .ok (.getfield 13, 3) := by decide +kernel
theorem dX10_image_9 : decode cX10_image 9 = .ok (.aload_n 0, 1) := by decide +kernel
theorem dX10_image_10 : decode cX10_image 10 = .ok (.getfield 31, 3) := by decide +kernel
theorem dX10_image_13 : decode cX10_image 13 = .ok (.invokestatic 90, 3) := by decide +kernel
theorem dX10_image_16 : decode cX10_image 16 = .ok (.aload_n 0, 1) := by decide +kernel
theorem dX10_image_17 : decode cX10_image 17 = .ok (.getfield 16, 3) := by decide +kernel
theorem dX10_image_20 : decode cX10_image 20 = .ok (.aload_n 0, 1) := by decide +kernel
theorem dX10_image_21 : decode cX10_image 21 = .ok (.getfield 34, 3) := by decide +kernel
theorem dX10_image_24 : decode cX10_image 24 = .ok (.invokestatic 90, 3) := by decide +kernel
theorem dX10_image_27 : decode cX10_image 27 = .ok (.aload_n 0, 1) := by decide +kernel
theorem dX10_image_28 : decode cX10_image 28 = .ok (.getfield 19, 3) := by decide +kernel
theorem dX10_image_31 : decode cX10_image 31 = .ok (.aload_n 0, 1) := by decide +kernel
theorem dX10_image_32 : decode cX10_image 32 = .ok (.getfield 37, 3) := by decide +kernel
theorem dX10_image_35 : decode cX10_image 35 = .ok (.invokestatic 90, 3) := by decide +kernel
theorem dX10_image_38 : decode cX10_image 38 = .ok (.aload_n 0, 1) := by decide +kernel
theorem dX10_image_39 : decode cX10_image 39 = .ok (.getfield 22, 3) := by decide +kernel
theorem dX10_image_42 : decode cX10_image 42 = .ok (.aload_n 0, 1) := by decide +kernel
theorem dX10_image_43 : decode cX10_image 43 = .ok (.getfield 40, 3) := by decide +kernel
theorem dX10_image_46 : decode cX10_image 46 = .ok (.invokestatic 90, 3) := by decide +kernel
theorem dX10_image_49 : decode cX10_image 49 = .ok (.aload_n 0, 1) := by decide +kernel
theorem dX10_image_50 : decode cX10_image 50 = .ok (.getfield 25, 3) := by decide +kernel
theorem dX10_image_53 : decode cX10_image 53 = .ok (.aload_n 0, 1) := by decide +kernel
theorem dX10_image_54 : decode cX10_image 54 = .ok (.getfield 43, 3) := by decide +kernel
theorem dX10_image_57 : decode cX10_image 57 = .ok (.invokestatic 90, 3) := by decide +kernel
theorem dX10_image_60 : decode cX10_image 60 = .ok (.aload_n 0, 1) := by decide +kernel
theorem dX10_image_61 : decode cX10_image 61 = .ok (.getfield 28, 3) := by decide +kernel
theorem dX10_image_64 : decode cX10_image 64 = .ok (.aload_n 0, 1) := by decide +kernel
theorem dX10_image_65 : decode cX10_image 65 = .ok (.getfield 46, 3) := by decide +kernel
theorem dX10_image_68 : decode cX10_image 68 = .ok (.invokestatic 90, 3) := by decide +kernel
theorem dX10_image_71 : decode cX10_image 71 = .ok (.aload_n 0, 1) := by decide +kernel
theorem dX10_image_72 : decode cX10_image 72 = .ok (.getfield 13, 3) := by decide +kernel
theorem dX10_image_75 : decode cX10_image 75 = .ok (.iconst 0, 1) := by decide +kernel
theorem dX10_image_76 : decode cX10_image 76 = .ok (.iaload, 1) := by decide +kernel
theorem dX10_image_77 : decode cX10_image 77 = .ok (.ireturn, 1) := by decide +kernel
theorem dX10_on_0 : decode cX10_on 0 = .ok (.aload_n 0, 1) := by decide +kernel
theorem dX10_on_1 : decode cX10_on 1 = .ok (.getfield 86, 3) := by decide +kernel
theorem dX10_on_4 : decode cX10_on 4 = .ok (.ifCond .ne 10, 3) := by decide +kernel
theorem dX10_on_7 : decode cX10_on 7 = .ok (.aload_n 0, 1) := by decide +kernel
theorem dX10_on_8 : decode cX10_on 8 = .ok (.bipush (-3), 2) := by decide +kernel
theorem dX10_on_10 : decode cX10_on 10 = .ok (.invokevirtual 94, 3) := by decide +kernel
theorem dX10_on_13 : decode cX10_on 13 = .ok (.ireturn, 1) := by decide +kernel
theorem dX10_letter_0 : decode cX10_letter 0 = .ok (.iload_n 1, 1) := by decide +kernel
theorem dX10_letter_1 : decode cX10_letter 1 = .ok (.ifCond .ge 10, 3) := by decide +kernel
theorem dX10_letter_4 : decode cX10_letter 4 = .ok (.aload_n 0, 1) := by decide +kernel
theorem dX10_letter_5 : decode cX10_letter 5 = .ok (.bipush (-4), 2) := by decide +kernel
theorem dX10_letter_7 : decode cX10_letter 7 = .ok (.invokevirtual 94, 3) := by decide +kernel
theorem dX10_letter_10 : decode cX10_letter 10 = .ok (.ireturn, 1) := by decide +kernel
theorem dX10_letter_11 : decode cX10_letter 11 = .ok (.iload_n 1, 1) := by decide +kernel
theorem dX10_letter_12 : decode cX10_letter 12 = .ok (.sipush 255, 3) := by decide +kernel
theorem dX10_letter_15 : decode cX10_letter 15 = .ok (.if_icmp .gt 12, 3) := by decide +kernel
theorem dX10_letter_18 : decode cX10_letter 18 = .ok (.aload_n 0, 1) := by decide +kernel
theorem dX10_letter_19 : decode cX10_letter 19 = .ok (.getfield 98, 3) := by decide +kernel
theorem dX10_letter_22 : decode cX10_letter 22 = .ok (.bipush 64, 2) := by decide +kernel
theorem dX10_letter_24 : decode cX10_letter 24 = .ok (.if_icmp .ne 10, 3) := by decide +kernel
theorem dX10_letter_27 : decode cX10_letter 27 = .ok (.aload_n 0, 1) := by decide +kernel
theorem dX10_letter_28 : decode cX10_letter 28 = .ok (.bipush (-6), 2) := by decide +kernel
theorem dX10_letter_30 : decode cX10_letter 30 = .ok (.invokevirtual 94, 3) := by decide +kernel
theorem dX10_letter_33 : decode cX10_letter 33 = .ok (.ireturn, 1) := by decide +kernel
theorem dX10_letter_34 : decode cX10_letter 34 = .ok (.aload_n 0, 1) := by decide +kernel
theorem dX10_letter_35 : decode cX10_letter 35 = .ok (.getfield 49, 3) := by decide +kernel
theorem dX10_letter_38 : decode cX10_letter 38 = .ok (.aload_n 0, 1) := by decide +kernel
theorem dX10_letter_39 : decode cX10_letter 39 = .ok (.getfield 98, 3) := by decide +kernel
theorem dX10_letter_42 : decode cX10_letter 42 = .ok (.iload_n 1, 1) := by decide +kernel
theorem dX10_letter_43 : decode cX10_letter 43 = .ok (.iastore, 1) := by decide +kernel
theorem dX10_letter_44 : decode cX10_letter 44 = .ok (.aload_n 0, 1) := by decide +kernel
theorem dX10_letter_45 : decode cX10_letter 45 = .ok (.dup, 1) := by decide +kernel
theorem dX10_letter_46 : decode cX10_letter 46 = .ok (.getfield 98, 3) := by decide +kernel
theorem dX10_letter_49 : decode cX10_letter 49 = .ok (.iconst 1, 1) := by decide +kernel
theorem dX10_letter_50 : decode cX10_letter 50 = .ok (.iadd, 1) := by decide +kernel
theorem dX10_letter_51 : decode cX10_letter 51 = .ok (.putfield 98, 3) := by decide +kernel
theorem dX10_letter_54 : decode cX10_letter 54 = .ok (.aload_n 0, 1) := by decide +kernel
theorem dX10_letter_55 : decode cX10_letter 55 = .ok (.getfield 98, 3) := by decide +kernel
theorem dX10_letter_58 : decode cX10_letter 58 = .ok (.ireturn, 1) := by decide +kernel
theorem dX10_comes_0 : decode cX10_comes 0 = .ok (.aload_n 0, 1) := by decide +kernel
theorem dX10_comes_1 : decode cX10_comes 1 = .ok (.getfield 102, 3) := by decide +kernel
theorem dX10_comes_4 : decode cX10_comes 4 = .ok (.aload_n 0, 1) := by decide +kernel
theorem dX10_comes_5 : decode cX10_comes 5 = .ok (.getfield 98, 3) := by decide +kernel
theorem dX10_comes_8 : decode cX10_comes 8 = .ok (.if_icmp .ge 20, 3) := by decide +kernel
theorem dX10_comes_28 : decode cX10_comes 28 = .ok (.iconst 0, 1) := by decide +kernel
theorem dX10_comes_29 : decode cX10_comes 29 = .ok (.ireturn, 1) := by decide +kernel
theorem dX10_oneOf_0 : decode cX10_oneOf 0 = .ok (.iconst (-1), 1) := by decide +kernel
theorem dX10_oneOf_1 : decode cX10_oneOf 1 = .ok (.istore_n 2, 1) := by decide +kernel
theorem dX10_oneOf_2 : decode cX10_oneOf 2 = .ok (.iconst 0, 1) := by decide +kernel
theorem dX10_oneOf_3 : decode cX10_oneOf 3 = .ok (.istore_n 3, 1) := by decide +kernel
theorem dX10_oneOf_4 : decode cX10_oneOf 4 = .ok (.iload_n 3, 1) := by decide +kernel
theorem dX10_oneOf_5 : decode cX10_oneOf 5 = .ok (.aload_n 1, 1) := by decide +kernel
theorem dX10_oneOf_6 : decode cX10_oneOf 6 = .ok (.arraylength, 1) := by decide +kernel
theorem dX10_oneOf_7 : decode cX10_oneOf 7 = .ok (.if_icmp .ge 32, 3) := by decide +kernel
theorem dX10_oneOf_10 : decode cX10_oneOf 10 = .ok (.aload_n 0, 1) := by decide +kernel
theorem dX10_oneOf_11 : decode cX10_oneOf 11 = .ok (.getfield 105, 3) := by decide +kernel
theorem dX10_oneOf_14 : decode cX10_oneOf 14 = .ok (.ifCond .eq 25, 3) := by decide +kernel
theorem dX10_oneOf_17 : decode cX10_oneOf 17 = .ok (.iload_n 2, 1) := by decide +kernel
theorem dX10_oneOf_18 : decode cX10_oneOf 18 = .ok (.ifCond .ge 21, 3) := by decide +kernel
theorem dX10_oneOf_21 : decode cX10_oneOf 21 = .ok (.aload_n 0, 1) := by decide +kernel
theorem dX10_oneOf_22 : decode cX10_oneOf 22 = .ok (.aload_n 1, 1) := by decide +kernel
theorem dX10_oneOf_23 : decode cX10_oneOf 23 = .ok (.iload_n 3, 1) := by decide +kernel
theorem dX10_oneOf_24 : decode cX10_oneOf 24 = .ok (.caload, 1) := by decide +kernel
theorem dX10_oneOf_25 : decode cX10_oneOf 25 = .ok (.invokevirtual 108, 3) := by decide +kernel
theorem dX10_oneOf_28 : decode cX10_oneOf 28 = .ok (.ifCond .eq 5, 3) := by decide +kernel
theorem dX10_oneOf_33 : decode cX10_oneOf 33 = .ok (.iinc 3 1, 3) := by decide +kernel
theorem dX10_oneOf_36 : decode cX10_oneOf 36 = .ok (.goto (-32), 3) := by decide +kernel
theorem dX10_oneOf_39 : decode cX10_oneOf 39 = .ok (.iload_n 2, 1) := by decide +kernel
theorem dX10_oneOf_40 : decode cX10_oneOf 40 = .ok (.ifCond .ge 10, 3) := by decide +kernel
theorem dX10_oneOf_43 : decode cX10_oneOf 43 = .ok (.aload_n 0, 1) := by decide +kernel
theorem dX10_oneOf_44 : decode cX10_oneOf 44 = .ok (.iconst 0, 1) := by decide +kernel
theorem dX10_oneOf_45 : decode cX10_oneOf 45 = .ok (.putfield 105, 3) := by decide +kernel
theorem dX10_oneOf_48 : decode cX10_oneOf 48 = .ok (.iconst 0, 1) := by decide +kernel
theorem dX10_oneOf_49 : decode cX10_oneOf 49 = .ok (.ireturn, 1) := by decide +kernel
theorem dX10_figure_0 : decode cX10_figure 0 = .ok (.aload_n 0, 1) := by decide +kernel
theorem dX10_figure_1 : decode cX10_figure 1 = .ok (.getfield 105, 3) := by decide +kernel
theorem dX10_figure_4 : decode cX10_figure 4 = .ok (.ifCond .eq 42, 3) := by decide +kernel
theorem dX10_figure_46 : decode cX10_figure 46 = .ok (.aload_n 0, 1) := by decide +kernel
theorem dX10_figure_47 : decode cX10_figure 47 = .ok (.iconst 0, 1) := by decide +kernel
theorem dX10_figure_48 : decode cX10_figure 48 = .ok (.putfield 105, 3) := by decide +kernel
theorem dX10_figure_51 : decode cX10_figure 51 = .ok (.iconst 0, 1) := by decide +kernel
theorem dX10_figure_52 : decode cX10_figure 52 = .ok (.ireturn, 1) := by decide +kernel
theorem dX10_statement_0 : decode cX10_statement 0 = .ok (.aload_n 0, 1) := by decide +kernel
theorem dX10_statement_1 : decode cX10_statement 1 = .ok (.aload_n 0, 1) := by decide +kernel
theorem dX10_statement_2 : decode cX10_statement 2 = .ok (.aload_n 0, 1) := by decide +kernel
theorem dX10_statement_3 : decode cX10_statement 3 = .ok (.getfield 52, 3) := by decide +kernel
theorem dX10_statement_6 : decode cX10_statement 6 = .ok (.invokevirtual 112, 3) := by decide +kernel
theorem dX10_statement_9 : decode cX10_statement 9 = .ok (.putfield 116, 3) := by decide +kernel
theorem dX10_statement_12 : decode cX10_statement 12 = .ok (.aload_n 0, 1) := by decide +kernel
theorem dX10_statement_13 : decode cX10_statement 13 = .ok (.aload_n 0, 1) := by decide +kernel
theorem dX10_statement_14 : decode cX10_statement 14 = .ok (.invokevirtual 119, 3) := by decide +kernel
theorem dX10_statement_17 : decode cX10_statement 17 = .ok (.putfield 123, 3) := by decide +kernel
theorem dX10_statement_20 : decode cX10_statement 20 = .ok (.aload_n 0, 1) := by decide +kernel
theorem dX10_statement_21 : decode cX10_statement 21 = .ok (.getfield 116, 3) := by decide +kernel
theorem dX10_statement_24 : decode cX10_statement 24 = .ok (.ifCond .ne 18, 3) := by decide +kernel
theorem dX10_statement_27 : decode cX10_statement 27 = .ok (.aload_n 0, 1) := by decide +kernel
theorem dX10_statement_28 : decode cX10_statement 28 = .ok (.aload_n 0, 1) := by decide +kernel
theorem dX10_statement_29 : decode cX10_statement 29 = .ok (.aload_n 0, 1) := by decide +kernel
theorem dX10_statement_30 : decode cX10_statement 30 = .ok (.getfield 56, 3) := by decide +kernel
theorem dX10_statement_33 : decode cX10_statement 33 = .ok (.invokevirtual 112, 3) := by decide +kernel
theorem dX10_statement_36 : decode cX10_statement 36 = .ok (.putfield 126, 3) := by decide +kernel
theorem dX10_statement_39 : decode cX10_statement 39 = .ok (.goto 19, 3) := by decide +kernel
theorem dX10_statement_58 : decode cX10_statement 58 = .ok (.aload_n 0, 1) := by decide +kernel
theorem dX10_statement_59 : decode cX10_statement 59 = .ok (.getfield 105, 3) := by decide +kernel
theorem dX10_statement_62 : decode cX10_statement 62 = .ok (.ifCond .eq 25, 3) := by decide +kernel
theorem dX10_statement_87 : decode cX10_statement 87 = .ok (.aload_n 0, 1) := by decide +kernel
theorem dX10_statement_88 : decode cX10_statement 88 = .ok (.iconst 0, 1) := by decide +kernel
theorem dX10_statement_89 : decode cX10_statement 89 = .ok (.putfield 105, 3) := by decide +kernel
theorem dX10_statement_92 : decode cX10_statement 92 = .ok (.return_, 1) := by decide +kernel
theorem dX10_read_0 : decode cX10_read 0 = .ok (.iconst 0, 1) := by decide +kernel
theorem dX10_read_1 : decode cX10_read 1 = .ok (.istore_n 1, 1) := by decide +kernel
theorem dX10_read_2 : decode cX10_read 2 = .ok (.aload_n 0, 1) := by decide +kernel
theorem dX10_read_3 : decode cX10_read 3 = .ok (.iconst 0, 1) := by decide +kernel
theorem dX10_read_4 : decode cX10_read 4 = .ok (.putfield 102, 3) := by decide +kernel
theorem dX10_read_7 : decode cX10_read 7 = .ok (.aload_n 0, 1) := by decide +kernel
theorem dX10_read_8 : decode cX10_read 8 = .ok (.iconst 1, 1) := by decide +kernel
theorem dX10_read_9 : decode cX10_read 9 = .ok (.putfield 105, 3) := by decide +kernel
theorem dX10_read_12 : decode cX10_read 12 = .ok (.aload_n 0, 1) := by decide +kernel
theorem dX10_read_13 : decode cX10_read 13 = .ok (.invokevirtual 129, 3) := by decide +kernel
theorem dX10_read_16 : decode cX10_read 16 = .ok (.iinc 1 1, 3) := by decide +kernel
theorem dX10_read_19 : decode cX10_read 19 = .ok (.aload_n 0, 1) := by decide +kernel
theorem dX10_read_20 : decode cX10_read 20 = .ok (.getfield 105, 3) := by decide +kernel
theorem dX10_read_23 : decode cX10_read 23 = .ok (.ifCond .eq 14, 3) := by decide +kernel
theorem dX10_read_37 : decode cX10_read 37 = .ok (.aload_n 0, 1) := by decide +kernel
theorem dX10_read_38 : decode cX10_read 38 = .ok (.getfield 105, 3) := by decide +kernel
theorem dX10_read_41 : decode cX10_read 41 = .ok (.ifCond .ne 12, 3) := by decide +kernel
theorem dX10_read_44 : decode cX10_read 44 = .ok (.sipush (-1000), 3) := by decide +kernel
theorem dX10_read_47 : decode cX10_read 47 = .ok (.aload_n 0, 1) := by decide +kernel
theorem dX10_read_48 : decode cX10_read 48 = .ok (.getfield 102, 3) := by decide +kernel
theorem dX10_read_51 : decode cX10_read 51 = .ok (.isub, 1) := by decide +kernel
theorem dX10_read_52 : decode cX10_read 52 = .ok (.ireturn, 1) := by decide +kernel
theorem dX10_kitchen_0 : decode cX10_kitchen 0 = .ok (.aload_n 0, 1) := by decide +kernel
theorem dX10_kitchen_1 : decode cX10_kitchen 1 = .ok (.invokevirtual 139, 3) := by decide +kernel
theorem dX10_kitchen_4 : decode cX10_kitchen 4 = .ok (.istore_n 1, 1) := by decide +kernel
theorem dX10_kitchen_5 : decode cX10_kitchen 5 = .ok (.aload_n 0, 1) := by decide +kernel
theorem dX10_kitchen_6 : decode cX10_kitchen 6 = .ok (.iconst 0, 1) := by decide +kernel
theorem dX10_kitchen_7 : decode cX10_kitchen 7 = .ok (.putfield 98, 3) := by decide +kernel
theorem dX10_kitchen_10 : decode cX10_kitchen 10 = .ok (.iload_n 1, 1) := by decide +kernel
theorem dX10_kitchen_11 : decode cX10_kitchen 11 = .ok (.ireturn, 1) := by decide +kernel
theorem dX10_look_0 : decode cX10_look 0 = .ok (.aload_n 0, 1) := by decide +kernel
theorem dX10_look_1 : decode cX10_look 1 = .ok (.getfield 25, 3) := by decide +kernel
theorem dX10_look_4 : decode cX10_look 4 = .ok (.aload_n 0, 1) := by decide +kernel
theorem dX10_look_5 : decode cX10_look 5 = .ok (.getfield 59, 3) := by decide +kernel
theorem dX10_look_8 : decode cX10_look 8 = .ok (.invokestatic 90, 3) := by decide +kernel
theorem dX10_look_11 : decode cX10_look 11 = .ok (.aload_n 0, 1) := by decide +kernel
theorem dX10_look_12 : decode cX10_look 12 = .ok (.getfield 28, 3) := by decide +kernel
theorem dX10_look_15 : decode cX10_look 15 = .ok (.aload_n 0, 1) := by decide +kernel
theorem dX10_look_16 : decode cX10_look 16 = .ok (.getfield 62, 3) := by decide +kernel
theorem dX10_look_19 : decode cX10_look 19 = .ok (.invokestatic 90, 3) := by decide +kernel
theorem dX10_look_22 : decode cX10_look 22 = .ok (.return_, 1) := by decide +kernel
theorem dX10_number_0 : decode cX10_number 0 = .ok (.aload_n 0, 1) := by decide +kernel
theorem dX10_number_1 : decode cX10_number 1 = .ok (.getfield 13, 3) := by decide +kernel
theorem dX10_number_4 : decode cX10_number 4 = .ok (.iconst 0, 1) := by decide +kernel
theorem dX10_number_5 : decode cX10_number 5 = .ok (.iaload, 1) := by decide +kernel
theorem dX10_number_6 : decode cX10_number 6 = .ok (.istore_n 1, 1) := by decide +kernel
theorem dX10_number_7 : decode cX10_number 7 = .ok (.iconst 0, 1) := by decide +kernel
theorem dX10_number_8 : decode cX10_number 8 = .ok (.istore_n 2, 1) := by decide +kernel
theorem dX10_number_9 : decode cX10_number 9 = .ok (.iconst 0, 1) := by decide +kernel
theorem dX10_number_10 : decode cX10_number 10 = .ok (.istore_n 3, 1) := by decide +kernel
theorem dX10_number_11 : decode cX10_number 11 = .ok (.iload_n 3, 1) := by decide +kernel
theorem dX10_number_12 : decode cX10_number 12 = .ok (.iload_n 1, 1) := by decide +kernel
theorem dX10_number_13 : decode cX10_number 13 = .ok (.if_icmp .ge 64, 3) := by decide +kernel
theorem dX10_number_77 : decode cX10_number 77 = .ok (.iconst 0, 1) := by decide +kernel
theorem dX10_number_78 : decode cX10_number 78 = .ok (.istore_n 3, 1) := by decide +kernel
theorem dX10_number_79 : decode cX10_number 79 = .ok (.iload_n 3, 1) := by decide +kernel
theorem dX10_number_80 : decode cX10_number 80 = .ok (.iload_n 1, 1) := by decide +kernel
theorem dX10_number_81 : decode cX10_number 81 = .ok (.if_icmp .ge 20, 3) := by decide +kernel
theorem dX10_number_101 : decode cX10_number 101 = .ok (.iload_n 2, 1) := by decide +kernel
theorem dX10_number_102 : decode cX10_number 102 = .ok (.ireturn, 1) := by decide +kernel
theorem dX10_look__0 : decode cX10_look_ 0 = .ok (.aload_n 0, 1) := by decide +kernel
theorem dX10_look__1 : decode cX10_look_ 1 = .ok (.getfield 13, 3) := by decide +kernel
theorem dX10_look__4 : decode cX10_look_ 4 = .ok (.iconst 0, 1) := by decide +kernel
theorem dX10_look__5 : decode cX10_look_ 5 = .ok (.iaload, 1) := by decide +kernel
theorem dX10_look__6 : decode cX10_look_ 6 = .ok (.istore_n 2, 1) := by decide +kernel
theorem dX10_look__7 : decode cX10_look_ 7 = .ok (.iload_n 1, 1) := by decide +kernel
theorem dX10_look__8 : decode cX10_look_ 8 = .ok (.istore_n 3, 1) := by decide +kernel
theorem dX10_look__9 : decode cX10_look_ 9 = .ok (.iload_n 2, 1) := by decide +kernel
theorem dX10_look__10 : decode cX10_look_ 10 = .ok (.iconst 1, 1) := by decide +kernel
theorem dX10_look__11 : decode cX10_look_ 11 = .ok (.isub, 1) := by decide +kernel
theorem dX10_look__12 : decode cX10_look_ 12 = .ok (.istore 4, 2) := by decide +kernel
theorem dX10_look__14 : decode cX10_look_ 14 = .ok (.iload 4, 2) := by decide +kernel
theorem dX10_look__16 : decode cX10_look_ 16 = .ok (.ifCond .lt 23, 3) := by decide +kernel
theorem dX10_look__39 : decode cX10_look_ 39 = .ok (.iload_n 2, 1) := by decide +kernel
theorem dX10_look__40 : decode cX10_look_ 40 = .ok (.iconst 1, 1) := by decide +kernel
theorem dX10_look__41 : decode cX10_look_ 41 = .ok (.isub, 1) := by decide +kernel
theorem dX10_look__42 : decode cX10_look_ 42 = .ok (.istore 4, 2) := by decide +kernel
theorem dX10_look__44 : decode cX10_look_ 44 = .ok (.iload 4, 2) := by decide +kernel
theorem dX10_look__46 : decode cX10_look_ 46 = .ok (.ifCond .lt 29, 3) := by decide +kernel
theorem dX10_look__75 : decode cX10_look_ 75 = .ok (.iconst 0, 1) := by decide +kernel
theorem dX10_look__76 : decode cX10_look_ 76 = .ok (.istore 4, 2) := by decide +kernel
theorem dX10_look__78 : decode cX10_look_ 78 = .ok (.iconst 0, 1) := by decide +kernel
theorem dX10_look__79 : decode cX10_look_ 79 = .ok (.istore 5, 2) := by decide +kernel
theorem dX10_look__81 : decode cX10_look_ 81 = .ok (.iload 5, 2) := by decide +kernel
theorem dX10_look__83 : decode cX10_look_ 83 = .ok (.iload_n 2, 1) := by decide +kernel
theorem dX10_look__84 : decode cX10_look_ 84 = .ok (.if_icmp .ge 82, 3) := by decide +kernel
theorem dX10_look__166 : decode cX10_look_ 166 = .ok (.return_, 1) := by decide +kernel
theorem dX10_many_0 : decode cX10_many 0 = .ok (.iconst 1, 1) := by decide +kernel
theorem dX10_many_1 : decode cX10_many 1 = .ok (.istore_n 1, 1) := by decide +kernel
theorem dX10_many_2 : decode cX10_many 2 = .ok (.iconst 1, 1) := by decide +kernel
theorem dX10_many_3 : decode cX10_many 3 = .ok (.istore_n 2, 1) := by decide +kernel
theorem dX10_many_4 : decode cX10_many 4 = .ok (.iload_n 2, 1) := by decide +kernel
theorem dX10_many_5 : decode cX10_many 5 = .ok (.aload_n 0, 1) := by decide +kernel
theorem dX10_many_6 : decode cX10_many 6 = .ok (.getfield 13, 3) := by decide +kernel
theorem dX10_many_9 : decode cX10_many 9 = .ok (.iconst 0, 1) := by decide +kernel
theorem dX10_many_10 : decode cX10_many 10 = .ok (.iaload, 1) := by decide +kernel
theorem dX10_many_11 : decode cX10_many 11 = .ok (.if_icmp .gt 15, 3) := by decide +kernel
theorem dX10_many_26 : decode cX10_many 26 = .ok (.iload_n 1, 1) := by decide +kernel
theorem dX10_many_27 : decode cX10_many 27 = .ok (.ireturn, 1) := by decide +kernel
theorem dX10_isTurn_0 : decode cX10_isTurn 0 = .ok (.iload_n 1, 1) := by decide +kernel
theorem dX10_isTurn_1 : decode cX10_isTurn 1 = .ok (.ifCond .lt 22, 3) := by decide +kernel
theorem dX10_isTurn_4 : decode cX10_isTurn 4 = .ok (.iload_n 1, 1) := by decide +kernel
theorem dX10_isTurn_5 : decode cX10_isTurn 5 = .ok (.iload_n 2, 1) := by decide +kernel
theorem dX10_isTurn_6 : decode cX10_isTurn 6 = .ok (.if_icmp .ge 17, 3) := by decide +kernel
theorem dX10_isTurn_9 : decode cX10_isTurn 9 = .ok (.iload_n 2, 1) := by decide +kernel
theorem dX10_isTurn_10 : decode cX10_isTurn 10 = .ok (.aload_n 0, 1) := by decide +kernel
theorem dX10_isTurn_11 : decode cX10_isTurn 11 = .ok (.getfield 13, 3) := by decide +kernel
theorem dX10_isTurn_14 : decode cX10_isTurn 14 = .ok (.iconst 0, 1) := by decide +kernel
theorem dX10_isTurn_15 : decode cX10_isTurn 15 = .ok (.iaload, 1) := by decide +kernel
theorem dX10_isTurn_16 : decode cX10_isTurn 16 = .ok (.if_icmp .gt 7, 3) := by decide +kernel
theorem dX10_isTurn_23 : decode cX10_isTurn 23 = .ok (.iconst 0, 1) := by decide +kernel
theorem dX10_isTurn_24 : decode cX10_isTurn 24 = .ok (.ireturn, 1) := by decide +kernel
theorem dX10_isSorted_0 : decode cX10_isSorted 0 = .ok (.iconst 1, 1) := by decide +kernel
theorem dX10_isSorted_1 : decode cX10_isSorted 1 = .ok (.istore_n 1, 1) := by decide +kernel
theorem dX10_isSorted_2 : decode cX10_isSorted 2 = .ok (.iconst 0, 1) := by decide +kernel
theorem dX10_isSorted_3 : decode cX10_isSorted 3 = .ok (.istore_n 2, 1) := by decide +kernel
theorem dX10_isSorted_4 : decode cX10_isSorted 4 = .ok (.iload_n 2, 1) := by decide +kernel
theorem dX10_isSorted_5 : decode cX10_isSorted 5 = .ok (.aload_n 0, 1) := by decide +kernel
theorem dX10_isSorted_6 : decode cX10_isSorted 6 = .ok (.getfield 13, 3) := by decide +kernel
theorem dX10_isSorted_9 : decode cX10_isSorted 9 = .ok (.iconst 0, 1) := by decide +kernel
theorem dX10_isSorted_10 : decode cX10_isSorted 10 = .ok (.iaload, 1) := by decide +kernel
theorem dX10_isSorted_11 : decode cX10_isSorted 11 = .ok (.if_icmp .ge 68, 3) := by decide +kernel
theorem dX10_isSorted_79 : decode cX10_isSorted 79 = .ok (.iload_n 1, 1) := by decide +kernel
theorem dX10_isSorted_80 : decode cX10_isSorted 80 = .ok (.ireturn, 1) := by decide +kernel
theorem dX10_gapsSeen_0 : decode cX10_gapsSeen 0 = .ok (.aload_n 0, 1) := by decide +kernel
theorem dX10_gapsSeen_1 : decode cX10_gapsSeen 1 = .ok (.getfield 13, 3) := by decide +kernel
theorem dX10_gapsSeen_4 : decode cX10_gapsSeen 4 = .ok (.iconst 0, 1) := by decide +kernel
theorem dX10_gapsSeen_5 : decode cX10_gapsSeen 5 = .ok (.iaload, 1) := by decide +kernel
theorem dX10_gapsSeen_6 : decode cX10_gapsSeen 6 = .ok (.istore_n 1, 1) := by decide +kernel
theorem dX10_gapsSeen_7 : decode cX10_gapsSeen 7 = .ok (.iconst 0, 1) := by decide +kernel
theorem dX10_gapsSeen_8 : decode cX10_gapsSeen 8 = .ok (.istore_n 2, 1) := by decide +kernel
theorem dX10_gapsSeen_9 : decode cX10_gapsSeen 9 = .ok (.iconst 0, 1) := by decide +kernel
theorem dX10_gapsSeen_10 : decode cX10_gapsSeen 10 = .ok (.istore_n 3, 1) := by decide +kernel
theorem dX10_gapsSeen_11 : decode cX10_gapsSeen 11 = .ok (.iload_n 3, 1) := by decide +kernel
theorem dX10_gapsSeen_12 : decode cX10_gapsSeen 12 = .ok (.iload_n 1, 1) := by decide +kernel
theorem dX10_gapsSeen_13 : decode cX10_gapsSeen 13 = .ok (.if_icmp .ge 116, 3) := by decide +kernel
theorem dX10_gapsSeen_129 : decode cX10_gapsSeen 129 = .ok (.iload_n 2, 1) := by decide +kernel
theorem dX10_gapsSeen_130 : decode cX10_gapsSeen 130 = .ok (.ireturn, 1) := by decide +kernel
theorem dX10_place_0 : decode cX10_place 0 = .ok (.iload_n 1, 1) := by decide +kernel
theorem dX10_place_1 : decode cX10_place 1 = .ok (.ifCond .lt 13, 3) := by decide +kernel
theorem dX10_place_4 : decode cX10_place 4 = .ok (.iload_n 1, 1) := by decide +kernel
theorem dX10_place_5 : decode cX10_place 5 = .ok (.aload_n 0, 1) := by decide +kernel
theorem dX10_place_6 : decode cX10_place 6 = .ok (.getfield 13, 3) := by decide +kernel
theorem dX10_place_9 : decode cX10_place 9 = .ok (.iconst 0, 1) := by decide +kernel
theorem dX10_place_10 : decode cX10_place 10 = .ok (.iaload, 1) := by decide +kernel
theorem dX10_place_11 : decode cX10_place 11 = .ok (.if_icmp .lt 9, 3) := by decide +kernel
theorem dX10_place_14 : decode cX10_place 14 = .ok (.aload_n 0, 1) := by decide +kernel
theorem dX10_place_15 : decode cX10_place 15 = .ok (.iconst (-1), 1) := by decide +kernel
theorem dX10_place_16 : decode cX10_place 16 = .ok (.invokevirtual 94, 3) := by decide +kernel
theorem dX10_place_19 : decode cX10_place 19 = .ok (.ireturn, 1) := by decide +kernel
theorem dX10_law_0 : decode cX10_law 0 = .ok (.iload_n 1, 1) := by decide +kernel
theorem dX10_law_1 : decode cX10_law 1 = .ok (.ifCond .lt 8, 3) := by decide +kernel
theorem dX10_law_4 : decode cX10_law 4 = .ok (.iload_n 1, 1) := by decide +kernel
theorem dX10_law_5 : decode cX10_law 5 = .ok (.iconst 4, 1) := by decide +kernel
theorem dX10_law_6 : decode cX10_law 6 = .ok (.if_icmp .le 10, 3) := by decide +kernel
theorem dX10_law_9 : decode cX10_law 9 = .ok (.aload_n 0, 1) := by decide +kernel
theorem dX10_law_10 : decode cX10_law 10 = .ok (.bipush (-2), 2) := by decide +kernel
theorem dX10_law_12 : decode cX10_law 12 = .ok (.invokevirtual 94, 3) := by decide +kernel
theorem dX10_law_15 : decode cX10_law 15 = .ok (.ireturn, 1) := by decide +kernel
theorem dX10_law_16 : decode cX10_law 16 = .ok (.aload_n 0, 1) := by decide +kernel
theorem dX10_law_17 : decode cX10_law 17 = .ok (.getfield 13, 3) := by decide +kernel
theorem dX10_law_20 : decode cX10_law 20 = .ok (.iconst 2, 1) := by decide +kernel
theorem dX10_law_21 : decode cX10_law 21 = .ok (.iaload, 1) := by decide +kernel
theorem dX10_law_22 : decode cX10_law 22 = .ok (.istore_n 2, 1) := by decide +kernel
theorem dX10_law_23 : decode cX10_law 23 = .ok (.aload_n 0, 1) := by decide +kernel
theorem dX10_law_24 : decode cX10_law 24 = .ok (.getfield 13, 3) := by decide +kernel
theorem dX10_law_27 : decode cX10_law 27 = .ok (.iconst 2, 1) := by decide +kernel
theorem dX10_law_28 : decode cX10_law 28 = .ok (.iload_n 1, 1) := by decide +kernel
theorem dX10_law_29 : decode cX10_law 29 = .ok (.iastore, 1) := by decide +kernel
theorem dX10_law_30 : decode cX10_law 30 = .ok (.iload_n 2, 1) := by decide +kernel
theorem dX10_law_31 : decode cX10_law 31 = .ok (.ireturn, 1) := by decide +kernel
theorem dX10_may_0 : decode cX10_may 0 = .ok (.aload_n 0, 1) := by decide +kernel
theorem dX10_may_1 : decode cX10_may 1 = .ok (.iload_n 1, 1) := by decide +kernel
theorem dX10_may_2 : decode cX10_may 2 = .ok (.iload_n 2, 1) := by decide +kernel
theorem dX10_may_3 : decode cX10_may 3 = .ok (.invokevirtual 158, 3) := by decide +kernel
theorem dX10_may_6 : decode cX10_may 6 = .ok (.ifCond .ne 9, 3) := by decide +kernel
theorem dX10_may_9 : decode cX10_may 9 = .ok (.aload_n 0, 1) := by decide +kernel
theorem dX10_may_10 : decode cX10_may 10 = .ok (.iconst (-1), 1) := by decide +kernel
theorem dX10_may_11 : decode cX10_may 11 = .ok (.invokevirtual 94, 3) := by decide +kernel
theorem dX10_may_14 : decode cX10_may 14 = .ok (.ireturn, 1) := by decide +kernel
theorem dX10_turn_0 : decode cX10_turn 0 = .ok (.aload_n 0, 1) := by decide +kernel
theorem dX10_turn_1 : decode cX10_turn 1 = .ok (.iload_n 1, 1) := by decide +kernel
theorem dX10_turn_2 : decode cX10_turn 2 = .ok (.iload_n 2, 1) := by decide +kernel
theorem dX10_turn_3 : decode cX10_turn 3 = .ok (.invokevirtual 158, 3) := by decide +kernel
theorem dX10_turn_6 : decode cX10_turn 6 = .ok (.ifCond .ne 9, 3) := by decide +kernel
theorem dX10_turn_9 : decode cX10_turn 9 = .ok (.aload_n 0, 1) := by decide +kernel
theorem dX10_turn_10 : decode cX10_turn 10 = .ok (.iconst (-1), 1) := by decide +kernel
theorem dX10_turn_11 : decode cX10_turn 11 = .ok (.invokevirtual 94, 3) := by decide +kernel
theorem dX10_turn_14 : decode cX10_turn 14 = .ok (.ireturn, 1) := by decide +kernel
theorem dX10_inOrder_0 : decode cX10_inOrder 0 = .ok (.aload_n 0, 1) := by decide +kernel
theorem dX10_inOrder_1 : decode cX10_inOrder 1 = .ok (.invokevirtual 161, 3) := by decide +kernel
theorem dX10_inOrder_4 : decode cX10_inOrder 4 = .ok (.aload_n 0, 1) := by decide +kernel
theorem dX10_inOrder_5 : decode cX10_inOrder 5 = .ok (.invokevirtual 174, 3) := by decide +kernel
theorem dX10_inOrder_8 : decode cX10_inOrder 8 = .ok (.ifCond .eq 7, 3) := by decide +kernel
theorem dX10_inOrder_11 : decode cX10_inOrder 11 = .ok (.iconst 1, 1) := by decide +kernel
theorem dX10_inOrder_12 : decode cX10_inOrder 12 = .ok (.goto 4, 3) := by decide +kernel
theorem dX10_inOrder_16 : decode cX10_inOrder 16 = .ok (.ireturn, 1) := by decide +kernel
theorem dX10_gaps_0 : decode cX10_gaps 0 = .ok (.aload_n 0, 1) := by decide +kernel
theorem dX10_gaps_1 : decode cX10_gaps 1 = .ok (.invokevirtual 161, 3) := by decide +kernel
theorem dX10_gaps_4 : decode cX10_gaps 4 = .ok (.aload_n 0, 1) := by decide +kernel
theorem dX10_gaps_5 : decode cX10_gaps 5 = .ok (.invokevirtual 178, 3) := by decide +kernel
theorem dX10_gaps_8 : decode cX10_gaps 8 = .ok (.ireturn, 1) := by decide +kernel
theorem dX10_goOut_0 : decode cX10_goOut 0 = .ok (.aload_n 0, 1) := by decide +kernel
theorem dX10_goOut_1 : decode cX10_goOut 1 = .ok (.getfield 13, 3) := by decide +kernel
theorem dX10_goOut_4 : decode cX10_goOut 4 = .ok (.iconst 0, 1) := by decide +kernel
theorem dX10_goOut_5 : decode cX10_goOut 5 = .ok (.iaload, 1) := by decide +kernel
theorem dX10_goOut_6 : decode cX10_goOut 6 = .ok (.istore_n 1, 1) := by decide +kernel
theorem dX10_goOut_7 : decode cX10_goOut 7 = .ok (.iconst 0, 1) := by decide +kernel
theorem dX10_goOut_8 : decode cX10_goOut 8 = .ok (.istore_n 2, 1) := by decide +kernel
theorem dX10_goOut_9 : decode cX10_goOut 9 = .ok (.iload_n 2, 1) := by decide +kernel
theorem dX10_goOut_10 : decode cX10_goOut 10 = .ok (.aload_n 0, 1) := by decide +kernel
theorem dX10_goOut_11 : decode cX10_goOut 11 = .ok (.getfield 181, 3) := by decide +kernel
theorem dX10_goOut_14 : decode cX10_goOut 14 = .ok (.if_icmp .ge 171, 3) := by decide +kernel
theorem dX10_goOut_17 : decode cX10_goOut 17 = .ok (.aload_n 0, 1) := by decide +kernel
theorem dX10_goOut_18 : decode cX10_goOut 18 = .ok (.getfield 77, 3) := by decide +kernel
theorem dX10_goOut_21 : decode cX10_goOut 21 = .ok (.iload_n 2, 1) := by decide +kernel
theorem dX10_goOut_22 : decode cX10_goOut 22 = .ok (.iaload, 1) := by decide +kernel
theorem dX10_goOut_23 : decode cX10_goOut 23 = .ok (.istore_n 3, 1) := by decide +kernel
theorem dX10_goOut_24 : decode cX10_goOut 24 = .ok (.iconst 0, 1) := by decide +kernel
theorem dX10_goOut_25 : decode cX10_goOut 25 = .ok (.istore 4, 2) := by decide +kernel
theorem dX10_goOut_27 : decode cX10_goOut 27 = .ok (.iload 4, 2) := by decide +kernel
theorem dX10_goOut_29 : decode cX10_goOut 29 = .ok (.iload_n 1, 1) := by decide +kernel
theorem dX10_goOut_30 : decode cX10_goOut 30 = .ok (.if_icmp .ge 149, 3) := by decide +kernel
theorem dX10_goOut_179 : decode cX10_goOut 179 = .ok (.iinc 2 1, 3) := by decide +kernel
theorem dX10_goOut_182 : decode cX10_goOut 182 = .ok (.goto (-173), 3) := by decide +kernel
theorem dX10_goOut_185 : decode cX10_goOut 185 = .ok (.return_, 1) := by decide +kernel
theorem dX10_enter_0 : decode cX10_enter 0 = .ok (.aload_n 0, 1) := by decide +kernel
theorem dX10_enter_1 : decode cX10_enter 1 = .ok (.getfield 68, 3) := by decide +kernel
theorem dX10_enter_4 : decode cX10_enter 4 = .ok (.iload_n 1, 1) := by decide +kernel
theorem dX10_enter_5 : decode cX10_enter 5 = .ok (.iconst 0, 1) := by decide +kernel
theorem dX10_enter_6 : decode cX10_enter 6 = .ok (.iastore, 1) := by decide +kernel
theorem dX10_enter_7 : decode cX10_enter 7 = .ok (.aload_n 0, 1) := by decide +kernel
theorem dX10_enter_8 : decode cX10_enter 8 = .ok (.getfield 71, 3) := by decide +kernel
theorem dX10_enter_11 : decode cX10_enter 11 = .ok (.iload_n 1, 1) := by decide +kernel
theorem dX10_enter_12 : decode cX10_enter 12 = .ok (.iconst 1, 1) := by decide +kernel
theorem dX10_enter_13 : decode cX10_enter 13 = .ok (.iastore, 1) := by decide +kernel
theorem dX10_enter_14 : decode cX10_enter 14 = .ok (.aload_n 0, 1) := by decide +kernel
theorem dX10_enter_15 : decode cX10_enter 15 = .ok (.getfield 77, 3) := by decide +kernel
theorem dX10_enter_18 : decode cX10_enter 18 = .ok (.aload_n 0, 1) := by decide +kernel
theorem dX10_enter_19 : decode cX10_enter 19 = .ok (.getfield 181, 3) := by decide +kernel
theorem dX10_enter_22 : decode cX10_enter 22 = .ok (.iload_n 1, 1) := by decide +kernel
theorem dX10_enter_23 : decode cX10_enter 23 = .ok (.iastore, 1) := by decide +kernel
theorem dX10_enter_24 : decode cX10_enter 24 = .ok (.aload_n 0, 1) := by decide +kernel
theorem dX10_enter_25 : decode cX10_enter 25 = .ok (.dup, 1) := by decide +kernel
theorem dX10_enter_26 : decode cX10_enter 26 = .ok (.getfield 181, 3) := by decide +kernel
theorem dX10_enter_29 : decode cX10_enter 29 = .ok (.iconst 1, 1) := by decide +kernel
theorem dX10_enter_30 : decode cX10_enter 30 = .ok (.iadd, 1) := by decide +kernel
theorem dX10_enter_31 : decode cX10_enter 31 = .ok (.putfield 181, 3) := by decide +kernel
theorem dX10_enter_34 : decode cX10_enter 34 = .ok (.return_, 1) := by decide +kernel
theorem dX10_fromOrder_0 : decode cX10_fromOrder 0 = .ok (.aload_n 0, 1) := by decide +kernel
theorem dX10_fromOrder_1 : decode cX10_fromOrder 1 = .ok (.iconst 0, 1) := by decide +kernel
theorem dX10_fromOrder_2 : decode cX10_fromOrder 2 = .ok (.putfield 181, 3) := by decide +kernel
theorem dX10_fromOrder_5 : decode cX10_fromOrder 5 = .ok (.iconst 0, 1) := by decide +kernel
theorem dX10_fromOrder_6 : decode cX10_fromOrder 6 = .ok (.istore_n 1, 1) := by decide +kernel
theorem dX10_fromOrder_7 : decode cX10_fromOrder 7 = .ok (.iload_n 1, 1) := by decide +kernel
theorem dX10_fromOrder_8 : decode cX10_fromOrder 8 = .ok (.aload_n 0, 1) := by decide +kernel
theorem dX10_fromOrder_9 : decode cX10_fromOrder 9 = .ok (.invokevirtual 190, 3) := by decide +kernel
theorem dX10_fromOrder_12 : decode cX10_fromOrder 12 = .ok (.if_icmp .ge 23, 3) := by decide +kernel
theorem dX10_fromOrder_15 : decode cX10_fromOrder 15 = .ok (.aload_n 0, 1) := by decide +kernel
theorem dX10_fromOrder_16 : decode cX10_fromOrder 16 = .ok (.getfield 68, 3) := by decide +kernel
theorem dX10_fromOrder_19 : decode cX10_fromOrder 19 = .ok (.iload_n 1, 1) := by decide +kernel
theorem dX10_fromOrder_20 : decode cX10_fromOrder 20 = .ok (.iconst (-1), 1) := by decide +kernel
theorem dX10_fromOrder_21 : decode cX10_fromOrder 21 = .ok (.iastore, 1) := by decide +kernel
theorem dX10_fromOrder_22 : decode cX10_fromOrder 22 = .ok (.aload_n 0, 1) := by decide +kernel
theorem dX10_fromOrder_23 : decode cX10_fromOrder 23 = .ok (.getfield 71, 3) := by decide +kernel
theorem dX10_fromOrder_26 : decode cX10_fromOrder 26 = .ok (.iload_n 1, 1) := by decide +kernel
theorem dX10_fromOrder_27 : decode cX10_fromOrder 27 = .ok (.iconst 0, 1) := by decide +kernel
theorem dX10_fromOrder_28 : decode cX10_fromOrder 28 = .ok (.iastore, 1) := by decide +kernel
theorem dX10_fromOrder_29 : decode cX10_fromOrder 29 = .ok (.iinc 1 1, 3) := by decide +kernel
theorem dX10_fromOrder_32 : decode cX10_fromOrder 32 = .ok (.goto (-25), 3) := by decide +kernel
theorem dX10_fromOrder_35 : decode cX10_fromOrder 35 = .ok (.iconst 0, 1) := by decide +kernel
theorem dX10_fromOrder_36 : decode cX10_fromOrder 36 = .ok (.istore_n 1, 1) := by decide +kernel
theorem dX10_fromOrder_37 : decode cX10_fromOrder 37 = .ok (.iload_n 1, 1) := by decide +kernel
theorem dX10_fromOrder_38 : decode cX10_fromOrder 38 = .ok (.aload_n 0, 1) := by decide +kernel
theorem dX10_fromOrder_39 : decode cX10_fromOrder 39 = .ok (.invokevirtual 190, 3) := by decide +kernel
theorem dX10_fromOrder_42 : decode cX10_fromOrder 42 = .ok (.if_icmp .ge 26, 3) := by decide +kernel
theorem dX10_fromOrder_45 : decode cX10_fromOrder 45 = .ok (.aload_n 0, 1) := by decide +kernel
theorem dX10_fromOrder_46 : decode cX10_fromOrder 46 = .ok (.iload_n 1, 1) := by decide +kernel
theorem dX10_fromOrder_47 : decode cX10_fromOrder 47 = .ok (.invokevirtual 184, 3) := by decide +kernel
theorem dX10_fromOrder_50 : decode cX10_fromOrder 50 = .ok (.aload_n 0, 1) := by decide +kernel
theorem dX10_fromOrder_51 : decode cX10_fromOrder 51 = .ok (.invokevirtual 174, 3) := by decide +kernel
theorem dX10_fromOrder_54 : decode cX10_fromOrder 54 = .ok (.ifCond .eq 8, 3) := by decide +kernel
theorem dX10_fromOrder_57 : decode cX10_fromOrder 57 = .ok (.aload_n 0, 1) := by decide +kernel
theorem dX10_fromOrder_58 : decode cX10_fromOrder 58 = .ok (.iload_n 1, 1) := by decide +kernel
theorem dX10_fromOrder_59 : decode cX10_fromOrder 59 = .ok (.invokevirtual 193, 3) := by decide +kernel
theorem dX10_fromOrder_62 : decode cX10_fromOrder 62 = .ok (.iinc 1 1, 3) := by decide +kernel
theorem dX10_fromOrder_65 : decode cX10_fromOrder 65 = .ok (.goto (-28), 3) := by decide +kernel
theorem dX10_fromOrder_68 : decode cX10_fromOrder 68 = .ok (.aload_n 0, 1) := by decide +kernel
theorem dX10_fromOrder_69 : decode cX10_fromOrder 69 = .ok (.invokevirtual 196, 3) := by decide +kernel
theorem dX10_fromOrder_72 : decode cX10_fromOrder 72 = .ok (.return_, 1) := by decide +kernel
theorem dX10_costs_0 : decode cX10_costs 0 = .ok (.aload_n 0, 1) := by decide +kernel
theorem dX10_costs_1 : decode cX10_costs 1 = .ok (.getfield 13, 3) := by decide +kernel
theorem dX10_costs_4 : decode cX10_costs 4 = .ok (.iconst 0, 1) := by decide +kernel
theorem dX10_costs_5 : decode cX10_costs 5 = .ok (.iaload, 1) := by decide +kernel
theorem dX10_costs_6 : decode cX10_costs 6 = .ok (.istore_n 1, 1) := by decide +kernel
theorem dX10_costs_7 : decode cX10_costs 7 = .ok (.iconst 0, 1) := by decide +kernel
theorem dX10_costs_8 : decode cX10_costs 8 = .ok (.istore_n 2, 1) := by decide +kernel
theorem dX10_costs_9 : decode cX10_costs 9 = .ok (.iload_n 2, 1) := by decide +kernel
theorem dX10_costs_10 : decode cX10_costs 10 = .ok (.aload_n 0, 1) := by decide +kernel
theorem dX10_costs_11 : decode cX10_costs 11 = .ok (.invokevirtual 190, 3) := by decide +kernel
theorem dX10_costs_14 : decode cX10_costs 14 = .ok (.if_icmp .ge 32, 3) := by decide +kernel
theorem dX10_costs_17 : decode cX10_costs 17 = .ok (.aload_n 0, 1) := by decide +kernel
theorem dX10_costs_18 : decode cX10_costs 18 = .ok (.iload_n 2, 1) := by decide +kernel
theorem dX10_costs_19 : decode cX10_costs 19 = .ok (.invokevirtual 184, 3) := by decide +kernel
theorem dX10_costs_22 : decode cX10_costs 22 = .ok (.aload_n 0, 1) := by decide +kernel
theorem dX10_costs_23 : decode cX10_costs 23 = .ok (.getfield 74, 3) := by decide +kernel
theorem dX10_costs_26 : decode cX10_costs 26 = .ok (.iload_n 2, 1) := by decide +kernel
theorem dX10_costs_27 : decode cX10_costs 27 = .ok (.aload_n 0, 1) := by decide +kernel
theorem dX10_costs_28 : decode cX10_costs 28 = .ok (.invokevirtual 174, 3) := by decide +kernel
theorem dX10_costs_31 : decode cX10_costs 31 = .ok (.ifCond .eq 7, 3) := by decide +kernel
theorem dX10_costs_34 : decode cX10_costs 34 = .ok (.iconst 0, 1) := by decide +kernel
theorem dX10_costs_35 : decode cX10_costs 35 = .ok (.goto 4, 3) := by decide +kernel
theorem dX10_costs_39 : decode cX10_costs 39 = .ok (.iastore, 1) := by decide +kernel
theorem dX10_costs_40 : decode cX10_costs 40 = .ok (.iinc 2 1, 3) := by decide +kernel
theorem dX10_costs_43 : decode cX10_costs 43 = .ok (.goto (-34), 3) := by decide +kernel
theorem dX10_costs_46 : decode cX10_costs 46 = .ok (.iconst 1, 1) := by decide +kernel
theorem dX10_costs_47 : decode cX10_costs 47 = .ok (.istore_n 2, 1) := by decide +kernel
theorem dX10_costs_48 : decode cX10_costs 48 = .ok (.iload_n 2, 1) := by decide +kernel
theorem dX10_costs_49 : decode cX10_costs 49 = .ok (.ifCond .eq 151, 3) := by decide +kernel
theorem dX10_costs_52 : decode cX10_costs 52 = .ok (.iconst 0, 1) := by decide +kernel
theorem dX10_costs_53 : decode cX10_costs 53 = .ok (.istore_n 2, 1) := by decide +kernel
theorem dX10_costs_54 : decode cX10_costs 54 = .ok (.iconst 0, 1) := by decide +kernel
theorem dX10_costs_55 : decode cX10_costs 55 = .ok (.istore_n 3, 1) := by decide +kernel
theorem dX10_costs_56 : decode cX10_costs 56 = .ok (.iload_n 3, 1) := by decide +kernel
theorem dX10_costs_57 : decode cX10_costs 57 = .ok (.aload_n 0, 1) := by decide +kernel
theorem dX10_costs_58 : decode cX10_costs 58 = .ok (.invokevirtual 190, 3) := by decide +kernel
theorem dX10_costs_61 : decode cX10_costs 61 = .ok (.if_icmp .ge 136, 3) := by decide +kernel
theorem dX10_costs_64 : decode cX10_costs 64 = .ok (.iconst 0, 1) := by decide +kernel
theorem dX10_costs_65 : decode cX10_costs 65 = .ok (.istore 4, 2) := by decide +kernel
theorem dX10_costs_67 : decode cX10_costs 67 = .ok (.iload 4, 2) := by decide +kernel
theorem dX10_costs_69 : decode cX10_costs 69 = .ok (.iload_n 1, 1) := by decide +kernel
theorem dX10_costs_70 : decode cX10_costs 70 = .ok (.if_icmp .ge 121, 3) := by decide +kernel
theorem dX10_costs_191 : decode cX10_costs 191 = .ok (.iinc 3 1, 3) := by decide +kernel
theorem dX10_costs_194 : decode cX10_costs 194 = .ok (.goto (-138), 3) := by decide +kernel
theorem dX10_costs_197 : decode cX10_costs 197 = .ok (.goto (-149), 3) := by decide +kernel
theorem dX10_costs_200 : decode cX10_costs 200 = .ok (.return_, 1) := by decide +kernel
theorem dX10_now_0 : decode cX10_now 0 = .ok (.aload_n 0, 1) := by decide +kernel
theorem dX10_now_1 : decode cX10_now 1 = .ok (.invokevirtual 161, 3) := by decide +kernel
theorem dX10_now_4 : decode cX10_now 4 = .ok (.aload_n 0, 1) := by decide +kernel
theorem dX10_now_5 : decode cX10_now 5 = .ok (.invokevirtual 187, 3) := by decide +kernel
theorem dX10_now_8 : decode cX10_now 8 = .ok (.ireturn, 1) := by decide +kernel
theorem dX10_least_0 : decode cX10_least 0 = .ok (.aload_n 0, 1) := by decide +kernel
theorem dX10_least_1 : decode cX10_least 1 = .ok (.invokevirtual 199, 3) := by decide +kernel
theorem dX10_least_4 : decode cX10_least 4 = .ok (.aload_n 0, 1) := by decide +kernel
theorem dX10_least_5 : decode cX10_least 5 = .ok (.getfield 68, 3) := by decide +kernel
theorem dX10_least_8 : decode cX10_least 8 = .ok (.aload_n 0, 1) := by decide +kernel
theorem dX10_least_9 : decode cX10_least 9 = .ok (.invokevirtual 202, 3) := by decide +kernel
theorem dX10_least_12 : decode cX10_least 12 = .ok (.iaload, 1) := by decide +kernel
theorem dX10_least_13 : decode cX10_least 13 = .ok (.istore_n 1, 1) := by decide +kernel
theorem dX10_least_14 : decode cX10_least 14 = .ok (.iload_n 1, 1) := by decide +kernel
theorem dX10_least_15 : decode cX10_least 15 = .ok (.ifCond .ge 8, 3) := by decide +kernel
theorem dX10_least_23 : decode cX10_least 23 = .ok (.iload_n 1, 1) := by decide +kernel
theorem dX10_least_24 : decode cX10_least 24 = .ok (.ireturn, 1) := by decide +kernel
theorem dX10_cheapest_0 : decode cX10_cheapest 0 = .ok (.aload_n 0, 1) := by decide +kernel
theorem dX10_cheapest_1 : decode cX10_cheapest 1 = .ok (.invokevirtual 205, 3) := by decide +kernel
theorem dX10_cheapest_4 : decode cX10_cheapest 4 = .ok (.aload_n 0, 1) := by decide +kernel
theorem dX10_cheapest_5 : decode cX10_cheapest 5 = .ok (.getfield 74, 3) := by decide +kernel
theorem dX10_cheapest_8 : decode cX10_cheapest 8 = .ok (.aload_n 0, 1) := by decide +kernel
theorem dX10_cheapest_9 : decode cX10_cheapest 9 = .ok (.invokevirtual 202, 3) := by decide +kernel
theorem dX10_cheapest_12 : decode cX10_cheapest 12 = .ok (.iaload, 1) := by decide +kernel
theorem dX10_cheapest_13 : decode cX10_cheapest 13 = .ok (.istore_n 1, 1) := by decide +kernel
theorem dX10_cheapest_14 : decode cX10_cheapest 14 = .ok (.iload_n 1, 1) := by decide +kernel
theorem dX10_cheapest_15 : decode cX10_cheapest 15 = .ok (.ifCond .ge 8, 3) := by decide +kernel
theorem dX10_cheapest_23 : decode cX10_cheapest 23 = .ok (.iload_n 1, 1) := by decide +kernel
theorem dX10_cheapest_24 : decode cX10_cheapest 24 = .ok (.ireturn, 1) := by decide +kernel
theorem dX10_ways_0 : decode cX10_ways 0 = .ok (.aload_n 0, 1) := by decide +kernel
theorem dX10_ways_1 : decode cX10_ways 1 = .ok (.invokevirtual 199, 3) := by decide +kernel
theorem dX10_ways_4 : decode cX10_ways 4 = .ok (.aload_n 0, 1) := by decide +kernel
theorem dX10_ways_5 : decode cX10_ways 5 = .ok (.getfield 71, 3) := by decide +kernel
theorem dX10_ways_8 : decode cX10_ways 8 = .ok (.aload_n 0, 1) := by decide +kernel
theorem dX10_ways_9 : decode cX10_ways 9 = .ok (.invokevirtual 202, 3) := by decide +kernel
theorem dX10_ways_12 : decode cX10_ways 12 = .ok (.iaload, 1) := by decide +kernel
theorem dX10_ways_13 : decode cX10_ways 13 = .ok (.ireturn, 1) := by decide +kernel
theorem dX10_far_0 : decode cX10_far 0 = .ok (.iload_n 1, 1) := by decide +kernel
theorem dX10_far_1 : decode cX10_far 1 = .ok (.iconst (-1), 1) := by decide +kernel
theorem dX10_far_2 : decode cX10_far 2 = .ok (.if_icmp .ge 10, 3) := by decide +kernel
theorem dX10_far_5 : decode cX10_far 5 = .ok (.aload_n 0, 1) := by decide +kernel
theorem dX10_far_6 : decode cX10_far 6 = .ok (.bipush (-4), 2) := by decide +kernel
theorem dX10_far_8 : decode cX10_far 8 = .ok (.invokevirtual 94, 3) := by decide +kernel
theorem dX10_far_11 : decode cX10_far 11 = .ok (.ireturn, 1) := by decide +kernel
theorem dX10_far_12 : decode cX10_far 12 = .ok (.iload_n 1, 1) := by decide +kernel
theorem dX10_far_13 : decode cX10_far 13 = .ok (.bipush 20, 2) := by decide +kernel
theorem dX10_far_15 : decode cX10_far 15 = .ok (.if_icmp .le 10, 3) := by decide +kernel
theorem dX10_far_18 : decode cX10_far 18 = .ok (.aload_n 0, 1) := by decide +kernel
theorem dX10_far_19 : decode cX10_far 19 = .ok (.bipush (-6), 2) := by decide +kernel
theorem dX10_far_21 : decode cX10_far 21 = .ok (.invokevirtual 94, 3) := by decide +kernel
theorem dX10_far_24 : decode cX10_far 24 = .ok (.ireturn, 1) := by decide +kernel
theorem dX10_far_25 : decode cX10_far 25 = .ok (.aload_n 0, 1) := by decide +kernel
theorem dX10_far_26 : decode cX10_far 26 = .ok (.invokevirtual 199, 3) := by decide +kernel
theorem dX10_far_29 : decode cX10_far 29 = .ok (.iconst 0, 1) := by decide +kernel
theorem dX10_far_30 : decode cX10_far 30 = .ok (.istore_n 2, 1) := by decide +kernel
theorem dX10_far_31 : decode cX10_far 31 = .ok (.iconst 0, 1) := by decide +kernel
theorem dX10_far_32 : decode cX10_far 32 = .ok (.istore_n 3, 1) := by decide +kernel
theorem dX10_far_33 : decode cX10_far 33 = .ok (.iload_n 3, 1) := by decide +kernel
theorem dX10_far_34 : decode cX10_far 34 = .ok (.aload_n 0, 1) := by decide +kernel
theorem dX10_far_35 : decode cX10_far 35 = .ok (.invokevirtual 190, 3) := by decide +kernel
theorem dX10_far_38 : decode cX10_far 38 = .ok (.if_icmp .ge 27, 3) := by decide +kernel
theorem dX10_far_41 : decode cX10_far 41 = .ok (.iload_n 2, 1) := by decide +kernel
theorem dX10_far_42 : decode cX10_far 42 = .ok (.aload_n 0, 1) := by decide +kernel
theorem dX10_far_43 : decode cX10_far 43 = .ok (.getfield 68, 3) := by decide +kernel
theorem dX10_far_46 : decode cX10_far 46 = .ok (.iload_n 3, 1) := by decide +kernel
theorem dX10_far_47 : decode cX10_far 47 = .ok (.iaload, 1) := by decide +kernel
theorem dX10_far_48 : decode cX10_far 48 = .ok (.iload_n 1, 1) := by decide +kernel
theorem dX10_far_49 : decode cX10_far 49 = .ok (.if_icmp .ne 7, 3) := by decide +kernel
theorem dX10_far_52 : decode cX10_far 52 = .ok (.iconst 1, 1) := by decide +kernel
theorem dX10_far_53 : decode cX10_far 53 = .ok (.goto 4, 3) := by decide +kernel
theorem dX10_far_56 : decode cX10_far 56 = .ok (.iconst 0, 1) := by decide +kernel
theorem dX10_far_57 : decode cX10_far 57 = .ok (.iadd, 1) := by decide +kernel
theorem dX10_far_58 : decode cX10_far 58 = .ok (.istore_n 2, 1) := by decide +kernel
theorem dX10_far_59 : decode cX10_far 59 = .ok (.iinc 3 1, 3) := by decide +kernel
theorem dX10_far_62 : decode cX10_far 62 = .ok (.goto (-29), 3) := by decide +kernel
theorem dX10_far_65 : decode cX10_far 65 = .ok (.iload_n 2, 1) := by decide +kernel
theorem dX10_far_66 : decode cX10_far 66 = .ok (.ireturn, 1) := by decide +kernel
theorem dX10_worst_0 : decode cX10_worst 0 = .ok (.iload_n 1, 1) := by decide +kernel
theorem dX10_worst_1 : decode cX10_worst 1 = .ok (.iconst (-1), 1) := by decide +kernel
theorem dX10_worst_2 : decode cX10_worst 2 = .ok (.if_icmp .lt 17, 3) := by decide +kernel
theorem dX10_worst_5 : decode cX10_worst 5 = .ok (.iload_n 1, 1) := by decide +kernel
theorem dX10_worst_6 : decode cX10_worst 6 = .ok (.aload_n 0, 1) := by decide +kernel
theorem dX10_worst_7 : decode cX10_worst 7 = .ok (.getfield 13, 3) := by decide +kernel
theorem dX10_worst_10 : decode cX10_worst 10 = .ok (.iconst 0, 1) := by decide +kernel
theorem dX10_worst_11 : decode cX10_worst 11 = .ok (.iaload, 1) := by decide +kernel
theorem dX10_worst_12 : decode cX10_worst 12 = .ok (.if_icmp .lt 13, 3) := by decide +kernel
theorem dX10_worst_15 : decode cX10_worst 15 = .ok (.iload_n 1, 1) := by decide +kernel
theorem dX10_worst_16 : decode cX10_worst 16 = .ok (.ifCond .lt 9, 3) := by decide +kernel
theorem dX10_worst_19 : decode cX10_worst 19 = .ok (.aload_n 0, 1) := by decide +kernel
theorem dX10_worst_20 : decode cX10_worst 20 = .ok (.iconst (-1), 1) := by decide +kernel
theorem dX10_worst_21 : decode cX10_worst 21 = .ok (.invokevirtual 94, 3) := by decide +kernel
theorem dX10_worst_24 : decode cX10_worst 24 = .ok (.ireturn, 1) := by decide +kernel
theorem dX10_worst_25 : decode cX10_worst 25 = .ok (.aload_n 0, 1) := by decide +kernel
theorem dX10_worst_26 : decode cX10_worst 26 = .ok (.getfield 13, 3) := by decide +kernel
theorem dX10_worst_29 : decode cX10_worst 29 = .ok (.iconst 0, 1) := by decide +kernel
theorem dX10_worst_30 : decode cX10_worst 30 = .ok (.iaload, 1) := by decide +kernel
theorem dX10_worst_31 : decode cX10_worst 31 = .ok (.ifCond .ne 10, 3) := by decide +kernel
theorem dX10_worst_34 : decode cX10_worst 34 = .ok (.aload_n 0, 1) := by decide +kernel
theorem dX10_worst_35 : decode cX10_worst 35 = .ok (.bipush (-3), 2) := by decide +kernel
theorem dX10_worst_37 : decode cX10_worst 37 = .ok (.invokevirtual 94, 3) := by decide +kernel
theorem dX10_worst_40 : decode cX10_worst 40 = .ok (.ireturn, 1) := by decide +kernel
theorem dX10_before_0 : decode cX10_before 0 = .ok (.iload_n 1, 1) := by decide +kernel
theorem dX10_before_1 : decode cX10_before 1 = .ok (.ifCond .ge 10, 3) := by decide +kernel
theorem dX10_before_4 : decode cX10_before 4 = .ok (.aload_n 0, 1) := by decide +kernel
theorem dX10_before_5 : decode cX10_before 5 = .ok (.bipush (-4), 2) := by decide +kernel
theorem dX10_before_7 : decode cX10_before 7 = .ok (.invokevirtual 94, 3) := by decide +kernel
theorem dX10_before_10 : decode cX10_before 10 = .ok (.ireturn, 1) := by decide +kernel
theorem dX10_before_11 : decode cX10_before 11 = .ok (.iload_n 1, 1) := by decide +kernel
theorem dX10_before_12 : decode cX10_before 12 = .ok (.iconst 4, 1) := by decide +kernel
theorem dX10_before_13 : decode cX10_before 13 = .ok (.if_icmp .le 10, 3) := by decide +kernel
theorem dX10_before_16 : decode cX10_before 16 = .ok (.aload_n 0, 1) := by decide +kernel
theorem dX10_before_17 : decode cX10_before 17 = .ok (.bipush (-6), 2) := by decide +kernel
theorem dX10_before_19 : decode cX10_before 19 = .ok (.invokevirtual 94, 3) := by decide +kernel
theorem dX10_before_22 : decode cX10_before 22 = .ok (.ireturn, 1) := by decide +kernel
theorem dX10_before_23 : decode cX10_before 23 = .ok (.iconst 0, 1) := by decide +kernel
theorem dX10_before_24 : decode cX10_before 24 = .ok (.istore_n 2, 1) := by decide +kernel
theorem dX10_before_25 : decode cX10_before 25 = .ok (.iload_n 2, 1) := by decide +kernel
theorem dX10_before_26 : decode cX10_before 26 = .ok (.aload_n 0, 1) := by decide +kernel
theorem dX10_before_27 : decode cX10_before 27 = .ok (.invokevirtual 190, 3) := by decide +kernel
theorem dX10_before_30 : decode cX10_before 30 = .ok (.if_icmp .ge 23, 3) := by decide +kernel
theorem dX10_before_33 : decode cX10_before 33 = .ok (.aload_n 0, 1) := by decide +kernel
theorem dX10_before_34 : decode cX10_before 34 = .ok (.getfield 68, 3) := by decide +kernel
theorem dX10_before_37 : decode cX10_before 37 = .ok (.iload_n 2, 1) := by decide +kernel
theorem dX10_before_38 : decode cX10_before 38 = .ok (.iconst (-1), 1) := by decide +kernel
theorem dX10_before_39 : decode cX10_before 39 = .ok (.iastore, 1) := by decide +kernel
theorem dX10_before_40 : decode cX10_before 40 = .ok (.aload_n 0, 1) := by decide +kernel
theorem dX10_before_41 : decode cX10_before 41 = .ok (.getfield 77, 3) := by decide +kernel
theorem dX10_before_44 : decode cX10_before 44 = .ok (.iload_n 2, 1) := by decide +kernel
theorem dX10_before_45 : decode cX10_before 45 = .ok (.iconst 0, 1) := by decide +kernel
theorem dX10_before_46 : decode cX10_before 46 = .ok (.iastore, 1) := by decide +kernel
theorem dX10_before_47 : decode cX10_before 47 = .ok (.iinc 2 1, 3) := by decide +kernel
theorem dX10_before_50 : decode cX10_before 50 = .ok (.goto (-25), 3) := by decide +kernel
theorem dX10_before_53 : decode cX10_before 53 = .ok (.aload_n 0, 1) := by decide +kernel
theorem dX10_before_54 : decode cX10_before 54 = .ok (.getfield 68, 3) := by decide +kernel
theorem dX10_before_57 : decode cX10_before 57 = .ok (.aload_n 0, 1) := by decide +kernel
theorem dX10_before_58 : decode cX10_before 58 = .ok (.invokevirtual 202, 3) := by decide +kernel
theorem dX10_before_61 : decode cX10_before 61 = .ok (.iconst 0, 1) := by decide +kernel
theorem dX10_before_62 : decode cX10_before 62 = .ok (.iastore, 1) := by decide +kernel
theorem dX10_before_63 : decode cX10_before 63 = .ok (.iconst 0, 1) := by decide +kernel
theorem dX10_before_64 : decode cX10_before 64 = .ok (.istore_n 2, 1) := by decide +kernel
theorem dX10_before_65 : decode cX10_before 65 = .ok (.iload_n 2, 1) := by decide +kernel
theorem dX10_before_66 : decode cX10_before 66 = .ok (.iload_n 1, 1) := by decide +kernel
theorem dX10_before_67 : decode cX10_before 67 = .ok (.if_icmp .ge 162, 3) := by decide +kernel
theorem dX10_before_70 : decode cX10_before 70 = .ok (.iconst 0, 1) := by decide +kernel
theorem dX10_before_71 : decode cX10_before 71 = .ok (.istore_n 3, 1) := by decide +kernel
theorem dX10_before_72 : decode cX10_before 72 = .ok (.iload_n 3, 1) := by decide +kernel
theorem dX10_before_73 : decode cX10_before 73 = .ok (.aload_n 0, 1) := by decide +kernel
theorem dX10_before_74 : decode cX10_before 74 = .ok (.invokevirtual 190, 3) := by decide +kernel
theorem dX10_before_77 : decode cX10_before 77 = .ok (.if_icmp .ge 98, 3) := by decide +kernel
theorem dX10_before_80 : decode cX10_before 80 = .ok (.iconst 0, 1) := by decide +kernel
theorem dX10_before_81 : decode cX10_before 81 = .ok (.istore 4, 2) := by decide +kernel
theorem dX10_before_83 : decode cX10_before 83 = .ok (.iload 4, 2) := by decide +kernel
theorem dX10_before_85 : decode cX10_before 85 = .ok (.aload_n 0, 1) := by decide +kernel
theorem dX10_before_86 : decode cX10_before 86 = .ok (.getfield 13, 3) := by decide +kernel
theorem dX10_before_89 : decode cX10_before 89 = .ok (.iconst 0, 1) := by decide +kernel
theorem dX10_before_90 : decode cX10_before 90 = .ok (.iaload, 1) := by decide +kernel
theorem dX10_before_91 : decode cX10_before 91 = .ok (.if_icmp .ge 78, 3) := by decide +kernel
theorem dX10_before_169 : decode cX10_before 169 = .ok (.iinc 3 1, 3) := by decide +kernel
theorem dX10_before_172 : decode cX10_before 172 = .ok (.goto (-100), 3) := by decide +kernel
theorem dX10_before_175 : decode cX10_before 175 = .ok (.iconst 0, 1) := by decide +kernel
theorem dX10_before_176 : decode cX10_before 176 = .ok (.istore_n 3, 1) := by decide +kernel
theorem dX10_before_177 : decode cX10_before 177 = .ok (.iload_n 3, 1) := by decide +kernel
theorem dX10_before_178 : decode cX10_before 178 = .ok (.aload_n 0, 1) := by decide +kernel
theorem dX10_before_179 : decode cX10_before 179 = .ok (.invokevirtual 190, 3) := by decide +kernel
theorem dX10_before_182 : decode cX10_before 182 = .ok (.if_icmp .ge 41, 3) := by decide +kernel
theorem dX10_before_185 : decode cX10_before 185 = .ok (.aload_n 0, 1) := by decide +kernel
theorem dX10_before_186 : decode cX10_before 186 = .ok (.getfield 68, 3) := by decide +kernel
theorem dX10_before_189 : decode cX10_before 189 = .ok (.iload_n 3, 1) := by decide +kernel
theorem dX10_before_190 : decode cX10_before 190 = .ok (.aload_n 0, 1) := by decide +kernel
theorem dX10_before_191 : decode cX10_before 191 = .ok (.getfield 77, 3) := by decide +kernel
theorem dX10_before_194 : decode cX10_before 194 = .ok (.iload_n 3, 1) := by decide +kernel
theorem dX10_before_195 : decode cX10_before 195 = .ok (.iaload, 1) := by decide +kernel
theorem dX10_before_196 : decode cX10_before 196 = .ok (.iload_n 2, 1) := by decide +kernel
theorem dX10_before_197 : decode cX10_before 197 = .ok (.iconst 1, 1) := by decide +kernel
theorem dX10_before_198 : decode cX10_before 198 = .ok (.iadd, 1) := by decide +kernel
theorem dX10_before_199 : decode cX10_before 199 = .ok (.if_icmp .ne 9, 3) := by decide +kernel
theorem dX10_before_208 : decode cX10_before 208 = .ok (.iconst (-1), 1) := by decide +kernel
theorem dX10_before_209 : decode cX10_before 209 = .ok (.iastore, 1) := by decide +kernel
theorem dX10_before_210 : decode cX10_before 210 = .ok (.aload_n 0, 1) := by decide +kernel
theorem dX10_before_211 : decode cX10_before 211 = .ok (.getfield 77, 3) := by decide +kernel
theorem dX10_before_214 : decode cX10_before 214 = .ok (.iload_n 3, 1) := by decide +kernel
theorem dX10_before_215 : decode cX10_before 215 = .ok (.iconst 0, 1) := by decide +kernel
theorem dX10_before_216 : decode cX10_before 216 = .ok (.iastore, 1) := by decide +kernel
theorem dX10_before_217 : decode cX10_before 217 = .ok (.iinc 3 1, 3) := by decide +kernel
theorem dX10_before_220 : decode cX10_before 220 = .ok (.goto (-43), 3) := by decide +kernel
theorem dX10_before_223 : decode cX10_before 223 = .ok (.iinc 2 1, 3) := by decide +kernel
theorem dX10_before_226 : decode cX10_before 226 = .ok (.goto (-161), 3) := by decide +kernel
theorem dX10_before_229 : decode cX10_before 229 = .ok (.iconst 0, 1) := by decide +kernel
theorem dX10_before_230 : decode cX10_before 230 = .ok (.istore_n 2, 1) := by decide +kernel
theorem dX10_before_231 : decode cX10_before 231 = .ok (.iconst 0, 1) := by decide +kernel
theorem dX10_before_232 : decode cX10_before 232 = .ok (.istore_n 3, 1) := by decide +kernel
theorem dX10_before_233 : decode cX10_before 233 = .ok (.iload_n 3, 1) := by decide +kernel
theorem dX10_before_234 : decode cX10_before 234 = .ok (.aload_n 0, 1) := by decide +kernel
theorem dX10_before_235 : decode cX10_before 235 = .ok (.invokevirtual 190, 3) := by decide +kernel
theorem dX10_before_238 : decode cX10_before 238 = .ok (.if_icmp .ge 27, 3) := by decide +kernel
theorem dX10_before_241 : decode cX10_before 241 = .ok (.iload_n 2, 1) := by decide +kernel
theorem dX10_before_242 : decode cX10_before 242 = .ok (.aload_n 0, 1) := by decide +kernel
theorem dX10_before_243 : decode cX10_before 243 = .ok (.getfield 68, 3) := by decide +kernel
theorem dX10_before_246 : decode cX10_before 246 = .ok (.iload_n 3, 1) := by decide +kernel
theorem dX10_before_247 : decode cX10_before 247 = .ok (.iaload, 1) := by decide +kernel
theorem dX10_before_248 : decode cX10_before 248 = .ok (.iload_n 1, 1) := by decide +kernel
theorem dX10_before_249 : decode cX10_before 249 = .ok (.if_icmp .ne 7, 3) := by decide +kernel
theorem dX10_before_252 : decode cX10_before 252 = .ok (.iconst 1, 1) := by decide +kernel
theorem dX10_before_253 : decode cX10_before 253 = .ok (.goto 4, 3) := by decide +kernel
theorem dX10_before_256 : decode cX10_before 256 = .ok (.iconst 0, 1) := by decide +kernel
theorem dX10_before_257 : decode cX10_before 257 = .ok (.iadd, 1) := by decide +kernel
theorem dX10_before_258 : decode cX10_before 258 = .ok (.istore_n 2, 1) := by decide +kernel
theorem dX10_before_259 : decode cX10_before 259 = .ok (.iinc 3 1, 3) := by decide +kernel
theorem dX10_before_262 : decode cX10_before 262 = .ok (.goto (-29), 3) := by decide +kernel
theorem dX10_before_265 : decode cX10_before 265 = .ok (.iload_n 2, 1) := by decide +kernel
theorem dX10_before_266 : decode cX10_before 266 = .ok (.ireturn, 1) := by decide +kernel
theorem dX10_nextOf_0 : decode cX10_nextOf 0 = .ok (.aload_n 0, 1) := by decide +kernel
theorem dX10_nextOf_1 : decode cX10_nextOf 1 = .ok (.iload_n 2, 1) := by decide +kernel
theorem dX10_nextOf_2 : decode cX10_nextOf 2 = .ok (.invokevirtual 184, 3) := by decide +kernel
theorem dX10_nextOf_5 : decode cX10_nextOf 5 = .ok (.aload_n 0, 1) := by decide +kernel
theorem dX10_nextOf_6 : decode cX10_nextOf 6 = .ok (.invokevirtual 174, 3) := by decide +kernel
theorem dX10_nextOf_9 : decode cX10_nextOf 9 = .ok (.ifCond .eq 6, 3) := by decide +kernel
theorem dX10_nextOf_12 : decode cX10_nextOf 12 = .ok (.bipush (-9), 2) := by decide +kernel
theorem dX10_nextOf_14 : decode cX10_nextOf 14 = .ok (.ireturn, 1) := by decide +kernel
theorem dX10_tell_0 : decode cX10_tell 0 = .ok (.iload_n 1, 1) := by decide +kernel
theorem dX10_tell_1 : decode cX10_tell 1 = .ok (.iconst 2, 1) := by decide +kernel
theorem dX10_tell_2 : decode cX10_tell 2 = .ok (.if_icmp .ne 10, 3) := by decide +kernel
theorem dX10_tell_5 : decode cX10_tell 5 = .ok (.aload_n 0, 1) := by decide +kernel
theorem dX10_tell_6 : decode cX10_tell 6 = .ok (.invokevirtual 199, 3) := by decide +kernel
theorem dX10_tell_9 : decode cX10_tell 9 = .ok (.goto 12, 3) := by decide +kernel
theorem dX10_tell_12 : decode cX10_tell 12 = .ok (.iload_n 1, 1) := by decide +kernel
theorem dX10_tell_13 : decode cX10_tell 13 = .ok (.iconst 3, 1) := by decide +kernel
theorem dX10_tell_14 : decode cX10_tell 14 = .ok (.if_icmp .ne 7, 3) := by decide +kernel
theorem dX10_tell_17 : decode cX10_tell 17 = .ok (.aload_n 0, 1) := by decide +kernel
theorem dX10_tell_18 : decode cX10_tell 18 = .ok (.invokevirtual 205, 3) := by decide +kernel
theorem dX10_tell_21 : decode cX10_tell 21 = .ok (.return_, 1) := by decide +kernel
theorem dX10_next_0 : decode cX10_next 0 = .ok (.iload_n 1, 1) := by decide +kernel
theorem dX10_next_1 : decode cX10_next 1 = .ok (.ifCond .lt 8, 3) := by decide +kernel
theorem dX10_next_4 : decode cX10_next 4 = .ok (.iload_n 1, 1) := by decide +kernel
theorem dX10_next_5 : decode cX10_next 5 = .ok (.iconst 4, 1) := by decide +kernel
theorem dX10_next_6 : decode cX10_next 6 = .ok (.if_icmp .le 10, 3) := by decide +kernel
theorem dX10_next_9 : decode cX10_next 9 = .ok (.aload_n 0, 1) := by decide +kernel
theorem dX10_next_10 : decode cX10_next 10 = .ok (.bipush (-2), 2) := by decide +kernel
theorem dX10_next_12 : decode cX10_next 12 = .ok (.invokevirtual 94, 3) := by decide +kernel
theorem dX10_next_15 : decode cX10_next 15 = .ok (.ireturn, 1) := by decide +kernel
theorem dX10_next_16 : decode cX10_next 16 = .ok (.aload_n 0, 1) := by decide +kernel
theorem dX10_next_17 : decode cX10_next 17 = .ok (.iload_n 1, 1) := by decide +kernel
theorem dX10_next_18 : decode cX10_next 18 = .ok (.invokevirtual 211, 3) := by decide +kernel
theorem dX10_next_21 : decode cX10_next 21 = .ok (.aload_n 0, 1) := by decide +kernel
theorem dX10_next_22 : decode cX10_next 22 = .ok (.iload_n 1, 1) := by decide +kernel
theorem dX10_next_23 : decode cX10_next 23 = .ok (.aload_n 0, 1) := by decide +kernel
theorem dX10_next_24 : decode cX10_next 24 = .ok (.invokevirtual 202, 3) := by decide +kernel
theorem dX10_next_27 : decode cX10_next 27 = .ok (.invokevirtual 214, 3) := by decide +kernel
theorem dX10_next_30 : decode cX10_next 30 = .ok (.ireturn, 1) := by decide +kernel
theorem dX10_rule_0 : decode cX10_rule 0 = .ok (.iload_n 1, 1) := by decide +kernel
theorem dX10_rule_1 : decode cX10_rule 1 = .ok (.ifCond .lt 8, 3) := by decide +kernel
theorem dX10_rule_4 : decode cX10_rule 4 = .ok (.iload_n 1, 1) := by decide +kernel
theorem dX10_rule_5 : decode cX10_rule 5 = .ok (.iconst 4, 1) := by decide +kernel
theorem dX10_rule_6 : decode cX10_rule 6 = .ok (.if_icmp .le 10, 3) := by decide +kernel
theorem dX10_rule_9 : decode cX10_rule 9 = .ok (.aload_n 0, 1) := by decide +kernel
theorem dX10_rule_10 : decode cX10_rule 10 = .ok (.bipush (-2), 2) := by decide +kernel
theorem dX10_rule_12 : decode cX10_rule 12 = .ok (.invokevirtual 94, 3) := by decide +kernel
theorem dX10_rule_15 : decode cX10_rule 15 = .ok (.ireturn, 1) := by decide +kernel
theorem dX10_rule_16 : decode cX10_rule 16 = .ok (.aload_n 0, 1) := by decide +kernel
theorem dX10_rule_17 : decode cX10_rule 17 = .ok (.iload_n 1, 1) := by decide +kernel
theorem dX10_rule_18 : decode cX10_rule 18 = .ok (.invokevirtual 211, 3) := by decide +kernel
theorem dX10_rule_21 : decode cX10_rule 21 = .ok (.aload_n 0, 1) := by decide +kernel
theorem dX10_rule_22 : decode cX10_rule 22 = .ok (.invokevirtual 202, 3) := by decide +kernel
theorem dX10_rule_25 : decode cX10_rule 25 = .ok (.istore_n 2, 1) := by decide +kernel
theorem dX10_rule_26 : decode cX10_rule 26 = .ok (.iconst 0, 1) := by decide +kernel
theorem dX10_rule_27 : decode cX10_rule 27 = .ok (.istore_n 3, 1) := by decide +kernel
theorem dX10_rule_28 : decode cX10_rule 28 = .ok (.iload_n 3, 1) := by decide +kernel
theorem dX10_rule_29 : decode cX10_rule 29 = .ok (.bipush 40, 2) := by decide +kernel
theorem dX10_rule_31 : decode cX10_rule 31 = .ok (.if_icmp .gt 65, 3) := by decide +kernel
theorem dX10_rule_34 : decode cX10_rule 34 = .ok (.aload_n 0, 1) := by decide +kernel
theorem dX10_rule_35 : decode cX10_rule 35 = .ok (.iload_n 2, 1) := by decide +kernel
theorem dX10_rule_36 : decode cX10_rule 36 = .ok (.invokevirtual 184, 3) := by decide +kernel
theorem dX10_rule_39 : decode cX10_rule 39 = .ok (.aload_n 0, 1) := by decide +kernel
theorem dX10_rule_40 : decode cX10_rule 40 = .ok (.invokevirtual 174, 3) := by decide +kernel
theorem dX10_rule_43 : decode cX10_rule 43 = .ok (.ifCond .eq 5, 3) := by decide +kernel
theorem dX10_rule_46 : decode cX10_rule 46 = .ok (.iload_n 3, 1) := by decide +kernel
theorem dX10_rule_47 : decode cX10_rule 47 = .ok (.ireturn, 1) := by decide +kernel
theorem dX10_row_0 : decode cX10_row 0 = .ok (.iload_n 1, 1) := by decide +kernel
theorem dX10_row_1 : decode cX10_row 1 = .ok (.ifCond .ge 10, 3) := by decide +kernel
theorem dX10_row_4 : decode cX10_row 4 = .ok (.aload_n 0, 1) := by decide +kernel
theorem dX10_row_5 : decode cX10_row 5 = .ok (.bipush (-4), 2) := by decide +kernel
theorem dX10_row_7 : decode cX10_row 7 = .ok (.invokevirtual 94, 3) := by decide +kernel
theorem dX10_row_10 : decode cX10_row 10 = .ok (.ireturn, 1) := by decide +kernel
theorem dX10_row_11 : decode cX10_row 11 = .ok (.iload_n 1, 1) := by decide +kernel
theorem dX10_row_12 : decode cX10_row 12 = .ok (.bipush 99, 2) := by decide +kernel
theorem dX10_row_14 : decode cX10_row 14 = .ok (.if_icmp .gt 12, 3) := by decide +kernel
theorem dX10_row_17 : decode cX10_row 17 = .ok (.aload_n 0, 1) := by decide +kernel
theorem dX10_row_18 : decode cX10_row 18 = .ok (.getfield 217, 3) := by decide +kernel
theorem dX10_row_21 : decode cX10_row 21 = .ok (.bipush 8, 2) := by decide +kernel
theorem dX10_row_23 : decode cX10_row 23 = .ok (.if_icmp .ne 10, 3) := by decide +kernel
theorem dX10_row_26 : decode cX10_row 26 = .ok (.aload_n 0, 1) := by decide +kernel
theorem dX10_row_27 : decode cX10_row 27 = .ok (.bipush (-6), 2) := by decide +kernel
theorem dX10_row_29 : decode cX10_row 29 = .ok (.invokevirtual 94, 3) := by decide +kernel
theorem dX10_row_32 : decode cX10_row 32 = .ok (.ireturn, 1) := by decide +kernel
theorem dX10_row_33 : decode cX10_row 33 = .ok (.aload_n 0, 1) := by decide +kernel
theorem dX10_row_34 : decode cX10_row 34 = .ok (.getfield 80, 3) := by decide +kernel
theorem dX10_row_37 : decode cX10_row 37 = .ok (.aload_n 0, 1) := by decide +kernel
theorem dX10_row_38 : decode cX10_row 38 = .ok (.getfield 217, 3) := by decide +kernel
theorem dX10_row_41 : decode cX10_row 41 = .ok (.iload_n 1, 1) := by decide +kernel
theorem dX10_row_42 : decode cX10_row 42 = .ok (.iastore, 1) := by decide +kernel
theorem dX10_row_43 : decode cX10_row 43 = .ok (.aload_n 0, 1) := by decide +kernel
theorem dX10_row_44 : decode cX10_row 44 = .ok (.dup, 1) := by decide +kernel
theorem dX10_row_45 : decode cX10_row 45 = .ok (.getfield 217, 3) := by decide +kernel
theorem dX10_row_48 : decode cX10_row 48 = .ok (.iconst 1, 1) := by decide +kernel
theorem dX10_row_49 : decode cX10_row 49 = .ok (.iadd, 1) := by decide +kernel
theorem dX10_row_50 : decode cX10_row 50 = .ok (.putfield 217, 3) := by decide +kernel
theorem dX10_row_53 : decode cX10_row 53 = .ok (.aload_n 0, 1) := by decide +kernel
theorem dX10_row_54 : decode cX10_row 54 = .ok (.getfield 217, 3) := by decide +kernel
theorem dX10_row_57 : decode cX10_row 57 = .ok (.ireturn, 1) := by decide +kernel
theorem dX10_path_0 : decode cX10_path 0 = .ok (.aload_n 0, 1) := by decide +kernel
theorem dX10_path_1 : decode cX10_path 1 = .ok (.getfield 13, 3) := by decide +kernel
theorem dX10_path_4 : decode cX10_path 4 = .ok (.iconst 0, 1) := by decide +kernel
theorem dX10_path_5 : decode cX10_path 5 = .ok (.iaload, 1) := by decide +kernel
theorem dX10_path_6 : decode cX10_path 6 = .ok (.istore_n 1, 1) := by decide +kernel
theorem dX10_path_7 : decode cX10_path 7 = .ok (.iconst 0, 1) := by decide +kernel
theorem dX10_path_8 : decode cX10_path 8 = .ok (.istore_n 2, 1) := by decide +kernel
theorem dX10_path_9 : decode cX10_path 9 = .ok (.iconst 0, 1) := by decide +kernel
theorem dX10_path_10 : decode cX10_path 10 = .ok (.istore_n 3, 1) := by decide +kernel
theorem dX10_path_11 : decode cX10_path 11 = .ok (.iload_n 3, 1) := by decide +kernel
theorem dX10_path_12 : decode cX10_path 12 = .ok (.aload_n 0, 1) := by decide +kernel
theorem dX10_path_13 : decode cX10_path 13 = .ok (.getfield 217, 3) := by decide +kernel
theorem dX10_path_16 : decode cX10_path 16 = .ok (.if_icmp .ge 51, 3) := by decide +kernel
theorem dX10_path_67 : decode cX10_path 67 = .ok (.aload_n 0, 1) := by decide +kernel
theorem dX10_path_68 : decode cX10_path 68 = .ok (.getfield 217, 3) := by decide +kernel
theorem dX10_path_71 : decode cX10_path 71 = .ok (.iload_n 1, 1) := by decide +kernel
theorem dX10_path_72 : decode cX10_path 72 = .ok (.if_icmp .ne 12, 3) := by decide +kernel
theorem dX10_path_75 : decode cX10_path 75 = .ok (.iload_n 2, 1) := by decide +kernel
theorem dX10_path_76 : decode cX10_path 76 = .ok (.iconst 1, 1) := by decide +kernel
theorem dX10_path_77 : decode cX10_path 77 = .ok (.iload_n 1, 1) := by decide +kernel
theorem dX10_path_78 : decode cX10_path 78 = .ok (.ishl, 1) := by decide +kernel
theorem dX10_path_79 : decode cX10_path 79 = .ok (.iconst 1, 1) := by decide +kernel
theorem dX10_path_80 : decode cX10_path 80 = .ok (.isub, 1) := by decide +kernel
theorem dX10_path_81 : decode cX10_path 81 = .ok (.if_icmp .eq 10, 3) := by decide +kernel
theorem dX10_path_91 : decode cX10_path 91 = .ok (.iconst 0, 1) := by decide +kernel
theorem dX10_path_92 : decode cX10_path 92 = .ok (.istore_n 3, 1) := by decide +kernel
theorem dX10_path_93 : decode cX10_path 93 = .ok (.iload_n 3, 1) := by decide +kernel
theorem dX10_path_94 : decode cX10_path 94 = .ok (.iload_n 1, 1) := by decide +kernel
theorem dX10_path_95 : decode cX10_path 95 = .ok (.if_icmp .ge 39, 3) := by decide +kernel
theorem dX10_path_134 : decode cX10_path 134 = .ok (.aload_n 0, 1) := by decide +kernel
theorem dX10_path_135 : decode cX10_path 135 = .ok (.invokevirtual 187, 3) := by decide +kernel
theorem dX10_path_138 : decode cX10_path 138 = .ok (.istore_n 3, 1) := by decide +kernel
theorem dX10_path_139 : decode cX10_path 139 = .ok (.aload_n 0, 1) := by decide +kernel
theorem dX10_path_140 : decode cX10_path 140 = .ok (.iconst 0, 1) := by decide +kernel
theorem dX10_path_141 : decode cX10_path 141 = .ok (.putfield 217, 3) := by decide +kernel
theorem dX10_path_144 : decode cX10_path 144 = .ok (.aload_n 0, 1) := by decide +kernel
theorem dX10_path_145 : decode cX10_path 145 = .ok (.iconst 0, 1) := by decide +kernel
theorem dX10_path_146 : decode cX10_path 146 = .ok (.putfield 181, 3) := by decide +kernel
theorem dX10_path_149 : decode cX10_path 149 = .ok (.iconst 0, 1) := by decide +kernel
theorem dX10_path_150 : decode cX10_path 150 = .ok (.istore 4, 2) := by decide +kernel
theorem dX10_path_152 : decode cX10_path 152 = .ok (.iload 4, 2) := by decide +kernel
theorem dX10_path_154 : decode cX10_path 154 = .ok (.aload_n 0, 1) := by decide +kernel
theorem dX10_path_155 : decode cX10_path 155 = .ok (.invokevirtual 190, 3) := by decide +kernel
theorem dX10_path_158 : decode cX10_path 158 = .ok (.if_icmp .ge 17, 3) := by decide +kernel
theorem dX10_path_161 : decode cX10_path 161 = .ok (.aload_n 0, 1) := by decide +kernel
theorem dX10_path_162 : decode cX10_path 162 = .ok (.getfield 68, 3) := by decide +kernel
theorem dX10_path_165 : decode cX10_path 165 = .ok (.iload 4, 2) := by decide +kernel
theorem dX10_path_167 : decode cX10_path 167 = .ok (.iconst (-1), 1) := by decide +kernel
theorem dX10_path_168 : decode cX10_path 168 = .ok (.iastore, 1) := by decide +kernel
theorem dX10_path_169 : decode cX10_path 169 = .ok (.iinc 4 1, 3) := by decide +kernel
theorem dX10_path_172 : decode cX10_path 172 = .ok (.goto (-20), 3) := by decide +kernel
theorem dX10_path_175 : decode cX10_path 175 = .ok (.aload_n 0, 1) := by decide +kernel
theorem dX10_path_176 : decode cX10_path 176 = .ok (.iload_n 3, 1) := by decide +kernel
theorem dX10_path_177 : decode cX10_path 177 = .ok (.invokevirtual 193, 3) := by decide +kernel
theorem dX10_path_180 : decode cX10_path 180 = .ok (.aload_n 0, 1) := by decide +kernel
theorem dX10_path_181 : decode cX10_path 181 = .ok (.invokevirtual 196, 3) := by decide +kernel
theorem dX10_path_184 : decode cX10_path 184 = .ok (.aload_n 0, 1) := by decide +kernel
theorem dX10_path_185 : decode cX10_path 185 = .ok (.getfield 68, 3) := by decide +kernel
theorem dX10_path_188 : decode cX10_path 188 = .ok (.aload_n 0, 1) := by decide +kernel
theorem dX10_path_189 : decode cX10_path 189 = .ok (.invokevirtual 202, 3) := by decide +kernel
theorem dX10_path_192 : decode cX10_path 192 = .ok (.iaload, 1) := by decide +kernel
theorem dX10_path_193 : decode cX10_path 193 = .ok (.istore 4, 2) := by decide +kernel
theorem dX10_path_195 : decode cX10_path 195 = .ok (.iload 4, 2) := by decide +kernel
theorem dX10_path_197 : decode cX10_path 197 = .ok (.ifCond .ge 8, 3) := by decide +kernel
theorem dX10_path_205 : decode cX10_path 205 = .ok (.iload 4, 2) := by decide +kernel
theorem dX10_path_207 : decode cX10_path 207 = .ok (.ireturn, 1) := by decide +kernel
theorem dX10_judge_0 : decode cX10_judge 0 = .ok (.aload_n 0, 1) := by decide +kernel
theorem dX10_judge_1 : decode cX10_judge 1 = .ok (.getfield 217, 3) := by decide +kernel
theorem dX10_judge_4 : decode cX10_judge 4 = .ok (.istore_n 1, 1) := by decide +kernel
theorem dX10_judge_5 : decode cX10_judge 5 = .ok (.aload_n 0, 1) := by decide +kernel
theorem dX10_judge_6 : decode cX10_judge 6 = .ok (.iconst 0, 1) := by decide +kernel
theorem dX10_judge_7 : decode cX10_judge 7 = .ok (.putfield 217, 3) := by decide +kernel
theorem dX10_judge_10 : decode cX10_judge 10 = .ok (.aload_n 0, 1) := by decide +kernel
theorem dX10_judge_11 : decode cX10_judge 11 = .ok (.invokevirtual 161, 3) := by decide +kernel
theorem dX10_judge_14 : decode cX10_judge 14 = .ok (.iconst 0, 1) := by decide +kernel
theorem dX10_judge_15 : decode cX10_judge 15 = .ok (.istore_n 2, 1) := by decide +kernel
theorem dX10_judge_16 : decode cX10_judge 16 = .ok (.iload_n 2, 1) := by decide +kernel
theorem dX10_judge_17 : decode cX10_judge 17 = .ok (.iload_n 1, 1) := by decide +kernel
theorem dX10_judge_18 : decode cX10_judge 18 = .ok (.if_icmp .ge 59, 3) := by decide +kernel
theorem dX10_judge_77 : decode cX10_judge 77 = .ok (.aload_n 0, 1) := by decide +kernel
theorem dX10_judge_78 : decode cX10_judge 78 = .ok (.invokevirtual 174, 3) := by decide +kernel
theorem dX10_judge_81 : decode cX10_judge 81 = .ok (.ifCond .eq 8, 3) := by decide +kernel
theorem dX10_judge_84 : decode cX10_judge 84 = .ok (.bipush (-9), 2) := by decide +kernel
theorem dX10_judge_86 : decode cX10_judge 86 = .ok (.goto 4, 3) := by decide +kernel
theorem dX10_judge_90 : decode cX10_judge 90 = .ok (.ireturn, 1) := by decide +kernel
theorem dX10_isBlind_0 : decode cX10_isBlind 0 = .ok (.aload_n 0, 1) := by decide +kernel
theorem dX10_isBlind_1 : decode cX10_isBlind 1 = .ok (.invokevirtual 190, 3) := by decide +kernel
theorem dX10_isBlind_4 : decode cX10_isBlind 4 = .ok (.aload_n 0, 1) := by decide +kernel
theorem dX10_isBlind_5 : decode cX10_isBlind 5 = .ok (.getfield 13, 3) := by decide +kernel
theorem dX10_isBlind_8 : decode cX10_isBlind 8 = .ok (.iconst 0, 1) := by decide +kernel
theorem dX10_isBlind_9 : decode cX10_isBlind 9 = .ok (.iaload, 1) := by decide +kernel
theorem dX10_isBlind_10 : decode cX10_isBlind 10 = .ok (.ishr, 1) := by decide +kernel
theorem dX10_isBlind_11 : decode cX10_isBlind 11 = .ok (.istore_n 3, 1) := by decide +kernel
theorem dX10_isBlind_12 : decode cX10_isBlind 12 = .ok (.iconst 0, 1) := by decide +kernel
theorem dX10_isBlind_13 : decode cX10_isBlind 13 = .ok (.istore 4, 2) := by decide +kernel
theorem dX10_isBlind_15 : decode cX10_isBlind 15 = .ok (.iload 4, 2) := by decide +kernel
theorem dX10_isBlind_17 : decode cX10_isBlind 17 = .ok (.iload_n 3, 1) := by decide +kernel
theorem dX10_isBlind_18 : decode cX10_isBlind 18 = .ok (.if_icmp .ge 270, 3) := by decide +kernel
theorem dX10_isBlind_21 : decode cX10_isBlind 21 = .ok (.aload_n 0, 1) := by decide +kernel
theorem dX10_isBlind_22 : decode cX10_isBlind 22 = .ok (.iload 4, 2) := by decide +kernel
theorem dX10_isBlind_24 : decode cX10_isBlind 24 = .ok (.aload_n 0, 1) := by decide +kernel
theorem dX10_isBlind_25 : decode cX10_isBlind 25 = .ok (.getfield 13, 3) := by decide +kernel
theorem dX10_isBlind_28 : decode cX10_isBlind 28 = .ok (.iconst 0, 1) := by decide +kernel
theorem dX10_isBlind_29 : decode cX10_isBlind 29 = .ok (.iaload, 1) := by decide +kernel
theorem dX10_isBlind_30 : decode cX10_isBlind 30 = .ok (.ishl, 1) := by decide +kernel
theorem dX10_isBlind_31 : decode cX10_isBlind 31 = .ok (.invokevirtual 184, 3) := by decide +kernel
theorem dX10_isBlind_34 : decode cX10_isBlind 34 = .ok (.iconst 1, 1) := by decide +kernel
theorem dX10_isBlind_35 : decode cX10_isBlind 35 = .ok (.istore 5, 2) := by decide +kernel
theorem dX10_isBlind_37 : decode cX10_isBlind 37 = .ok (.iconst 0, 1) := by decide +kernel
theorem dX10_isBlind_38 : decode cX10_isBlind 38 = .ok (.istore 6, 2) := by decide +kernel
theorem dX10_isBlind_40 : decode cX10_isBlind 40 = .ok (.iload 6, 2) := by decide +kernel
theorem dX10_isBlind_42 : decode cX10_isBlind 42 = .ok (.aload_n 0, 1) := by decide +kernel
theorem dX10_isBlind_43 : decode cX10_isBlind 43 = .ok (.getfield 13, 3) := by decide +kernel
theorem dX10_isBlind_46 : decode cX10_isBlind 46 = .ok (.iconst 1, 1) := by decide +kernel
theorem dX10_isBlind_47 : decode cX10_isBlind 47 = .ok (.iaload, 1) := by decide +kernel
theorem dX10_isBlind_48 : decode cX10_isBlind 48 = .ok (.if_icmp .ge 106, 3) := by decide +kernel
theorem dX10_isBlind_154 : decode cX10_isBlind 154 = .ok (.iload 5, 2) := by decide +kernel
theorem dX10_isBlind_156 : decode cX10_isBlind 156 = .ok (.ifCond .eq 126, 3) := by decide +kernel
theorem dX10_isBlind_159 : decode cX10_isBlind 159 = .ok (.iconst 0, 1) := by decide +kernel
theorem dX10_isBlind_160 : decode cX10_isBlind 160 = .ok (.istore 6, 2) := by decide +kernel
theorem dX10_isBlind_162 : decode cX10_isBlind 162 = .ok (.iload 6, 2) := by decide +kernel
theorem dX10_isBlind_164 : decode cX10_isBlind 164 = .ok (.aload_n 0, 1) := by decide +kernel
theorem dX10_isBlind_165 : decode cX10_isBlind 165 = .ok (.getfield 13, 3) := by decide +kernel
theorem dX10_isBlind_168 : decode cX10_isBlind 168 = .ok (.iconst 0, 1) := by decide +kernel
theorem dX10_isBlind_169 : decode cX10_isBlind 169 = .ok (.iaload, 1) := by decide +kernel
theorem dX10_isBlind_170 : decode cX10_isBlind 170 = .ok (.if_icmp .ge 70, 3) := by decide +kernel
theorem dX10_isBlind_240 : decode cX10_isBlind 240 = .ok (.iconst 0, 1) := by decide +kernel
theorem dX10_isBlind_241 : decode cX10_isBlind 241 = .ok (.istore 6, 2) := by decide +kernel
theorem dX10_isBlind_243 : decode cX10_isBlind 243 = .ok (.iload 6, 2) := by decide +kernel
theorem dX10_isBlind_245 : decode cX10_isBlind 245 = .ok (.iload_n 2, 1) := by decide +kernel
theorem dX10_isBlind_246 : decode cX10_isBlind 246 = .ok (.if_icmp .ge 27, 3) := by decide +kernel
theorem dX10_isBlind_273 : decode cX10_isBlind 273 = .ok (.aload_n 0, 1) := by decide +kernel
theorem dX10_isBlind_274 : decode cX10_isBlind 274 = .ok (.invokevirtual 174, 3) := by decide +kernel
theorem dX10_isBlind_277 : decode cX10_isBlind 277 = .ok (.ifCond .ne 5, 3) := by decide +kernel
theorem dX10_isBlind_282 : decode cX10_isBlind 282 = .ok (.iinc 4 1, 3) := by decide +kernel
theorem dX10_isBlind_285 : decode cX10_isBlind 285 = .ok (.goto (-270), 3) := by decide +kernel
theorem dX10_isBlind_288 : decode cX10_isBlind 288 = .ok (.iconst 1, 1) := by decide +kernel
theorem dX10_isBlind_289 : decode cX10_isBlind 289 = .ok (.ireturn, 1) := by decide +kernel
theorem dX10_blind_0 : decode cX10_blind 0 = .ok (.iconst 0, 1) := by decide +kernel
theorem dX10_blind_1 : decode cX10_blind 1 = .ok (.istore_n 1, 1) := by decide +kernel
theorem dX10_blind_2 : decode cX10_blind 2 = .ok (.iload_n 1, 1) := by decide +kernel
theorem dX10_blind_3 : decode cX10_blind 3 = .ok (.aload_n 0, 1) := by decide +kernel
theorem dX10_blind_4 : decode cX10_blind 4 = .ok (.getfield 217, 3) := by decide +kernel
theorem dX10_blind_7 : decode cX10_blind 7 = .ok (.if_icmp .ge 41, 3) := by decide +kernel
theorem dX10_blind_48 : decode cX10_blind 48 = .ok (.aload_n 0, 1) := by decide +kernel
theorem dX10_blind_49 : decode cX10_blind 49 = .ok (.aload_n 0, 1) := by decide +kernel
theorem dX10_blind_50 : decode cX10_blind 50 = .ok (.getfield 80, 3) := by decide +kernel
theorem dX10_blind_53 : decode cX10_blind 53 = .ok (.aload_n 0, 1) := by decide +kernel
theorem dX10_blind_54 : decode cX10_blind 54 = .ok (.getfield 217, 3) := by decide +kernel
theorem dX10_blind_57 : decode cX10_blind 57 = .ok (.invokevirtual 220, 3) := by decide +kernel
theorem dX10_blind_60 : decode cX10_blind 60 = .ok (.istore_n 1, 1) := by decide +kernel
theorem dX10_blind_61 : decode cX10_blind 61 = .ok (.aload_n 0, 1) := by decide +kernel
theorem dX10_blind_62 : decode cX10_blind 62 = .ok (.iconst 0, 1) := by decide +kernel
theorem dX10_blind_63 : decode cX10_blind 63 = .ok (.putfield 217, 3) := by decide +kernel
theorem dX10_blind_66 : decode cX10_blind 66 = .ok (.iload_n 1, 1) := by decide +kernel
theorem dX10_blind_67 : decode cX10_blind 67 = .ok (.ifCond .eq 7, 3) := by decide +kernel
theorem dX10_blind_70 : decode cX10_blind 70 = .ok (.iconst 1, 1) := by decide +kernel
theorem dX10_blind_71 : decode cX10_blind 71 = .ok (.goto 4, 3) := by decide +kernel
theorem dX10_blind_75 : decode cX10_blind 75 = .ok (.ireturn, 1) := by decide +kernel
theorem dX10_isRow_0 : decode cX10_isRow 0 = .ok (.iload_n 1, 1) := by decide +kernel
theorem dX10_isRow_1 : decode cX10_isRow 1 = .ok (.iload_n 2, 1) := by decide +kernel
theorem dX10_isRow_2 : decode cX10_isRow 2 = .ok (.if_icmp .ne 13, 3) := by decide +kernel
theorem dX10_isRow_5 : decode cX10_isRow 5 = .ok (.aload_n 0, 1) := by decide +kernel
theorem dX10_isRow_6 : decode cX10_isRow 6 = .ok (.aload_n 0, 1) := by decide +kernel
theorem dX10_isRow_7 : decode cX10_isRow 7 = .ok (.getfield 83, 3) := by decide +kernel
theorem dX10_isRow_10 : decode cX10_isRow 10 = .ok (.iload_n 2, 1) := by decide +kernel
theorem dX10_isRow_11 : decode cX10_isRow 11 = .ok (.invokevirtual 220, 3) := by decide +kernel
theorem dX10_isRow_14 : decode cX10_isRow 14 = .ok (.ireturn, 1) := by decide +kernel
theorem dX10_fewest_0 : decode cX10_fewest 0 = .ok (.iload_n 1, 1) := by decide +kernel
theorem dX10_fewest_1 : decode cX10_fewest 1 = .ok (.iconst (-1), 1) := by decide +kernel
theorem dX10_fewest_2 : decode cX10_fewest 2 = .ok (.if_icmp .ge 10, 3) := by decide +kernel
theorem dX10_fewest_5 : decode cX10_fewest 5 = .ok (.aload_n 0, 1) := by decide +kernel
theorem dX10_fewest_6 : decode cX10_fewest 6 = .ok (.bipush (-4), 2) := by decide +kernel
theorem dX10_fewest_8 : decode cX10_fewest 8 = .ok (.invokevirtual 94, 3) := by decide +kernel
theorem dX10_fewest_11 : decode cX10_fewest 11 = .ok (.ireturn, 1) := by decide +kernel
theorem dX10_fewest_12 : decode cX10_fewest 12 = .ok (.iconst 0, 1) := by decide +kernel
theorem dX10_fewest_13 : decode cX10_fewest 13 = .ok (.istore_n 2, 1) := by decide +kernel
theorem dX10_fewest_14 : decode cX10_fewest 14 = .ok (.iload_n 2, 1) := by decide +kernel
theorem dX10_fewest_15 : decode cX10_fewest 15 = .ok (.iconst 4, 1) := by decide +kernel
theorem dX10_fewest_16 : decode cX10_fewest 16 = .ok (.if_icmp .ge 43, 3) := by decide +kernel
theorem dX10_fewest_19 : decode cX10_fewest 19 = .ok (.aload_n 0, 1) := by decide +kernel
theorem dX10_fewest_20 : decode cX10_fewest 20 = .ok (.iconst 0, 1) := by decide +kernel
theorem dX10_fewest_21 : decode cX10_fewest 21 = .ok (.iload_n 2, 1) := by decide +kernel
theorem dX10_fewest_22 : decode cX10_fewest 22 = .ok (.invokevirtual 224, 3) := by decide +kernel
theorem dX10_fewest_25 : decode cX10_fewest 25 = .ok (.ifCond .eq 28, 3) := by decide +kernel
theorem dX10_fewest_28 : decode cX10_fewest 28 = .ok (.iload_n 1, 1) := by decide +kernel
theorem dX10_fewest_29 : decode cX10_fewest 29 = .ok (.ifCond .ge 7, 3) := by decide +kernel
theorem dX10_fewest_32 : decode cX10_fewest 32 = .ok (.iload_n 2, 1) := by decide +kernel
theorem dX10_fewest_33 : decode cX10_fewest 33 = .ok (.goto 19, 3) := by decide +kernel
theorem dX10_fewest_36 : decode cX10_fewest 36 = .ok (.iload_n 1, 1) := by decide +kernel
theorem dX10_fewest_37 : decode cX10_fewest 37 = .ok (.iload_n 2, 1) := by decide +kernel
theorem dX10_fewest_38 : decode cX10_fewest 38 = .ok (.if_icmp .ge 12, 3) := by decide +kernel
theorem dX10_fewest_50 : decode cX10_fewest 50 = .ok (.bipush (-9), 2) := by decide +kernel
theorem dX10_fewest_52 : decode cX10_fewest 52 = .ok (.ireturn, 1) := by decide +kernel
theorem dX10_match_0 : decode cX10_match 0 = .ok (.aload_n 0, 1) := by decide +kernel
theorem dX10_match_1 : decode cX10_match 1 = .ok (.getfield 13, 3) := by decide +kernel
theorem dX10_match_4 : decode cX10_match 4 = .ok (.iconst 0, 1) := by decide +kernel
theorem dX10_match_5 : decode cX10_match 5 = .ok (.iaload, 1) := by decide +kernel
theorem dX10_match_6 : decode cX10_match 6 = .ok (.istore_n 1, 1) := by decide +kernel
theorem dX10_match_7 : decode cX10_match 7 = .ok (.iconst 0, 1) := by decide +kernel
theorem dX10_match_8 : decode cX10_match 8 = .ok (.istore_n 2, 1) := by decide +kernel
theorem dX10_match_9 : decode cX10_match 9 = .ok (.iload_n 2, 1) := by decide +kernel
theorem dX10_match_10 : decode cX10_match 10 = .ok (.aload_n 0, 1) := by decide +kernel
theorem dX10_match_11 : decode cX10_match 11 = .ok (.invokevirtual 190, 3) := by decide +kernel
theorem dX10_match_14 : decode cX10_match 14 = .ok (.if_icmp .ge 32, 3) := by decide +kernel
theorem dX10_match_17 : decode cX10_match 17 = .ok (.aload_n 0, 1) := by decide +kernel
theorem dX10_match_18 : decode cX10_match 18 = .ok (.iload_n 2, 1) := by decide +kernel
theorem dX10_match_19 : decode cX10_match 19 = .ok (.invokevirtual 184, 3) := by decide +kernel
theorem dX10_match_22 : decode cX10_match 22 = .ok (.aload_n 0, 1) := by decide +kernel
theorem dX10_match_23 : decode cX10_match 23 = .ok (.getfield 68, 3) := by decide +kernel
theorem dX10_match_26 : decode cX10_match 26 = .ok (.iload_n 2, 1) := by decide +kernel
theorem dX10_match_27 : decode cX10_match 27 = .ok (.aload_n 0, 1) := by decide +kernel
theorem dX10_match_28 : decode cX10_match 28 = .ok (.invokevirtual 174, 3) := by decide +kernel
theorem dX10_match_31 : decode cX10_match 31 = .ok (.ifCond .eq 7, 3) := by decide +kernel
theorem dX10_match_34 : decode cX10_match 34 = .ok (.iconst 0, 1) := by decide +kernel
theorem dX10_match_35 : decode cX10_match 35 = .ok (.goto 4, 3) := by decide +kernel
theorem dX10_match_39 : decode cX10_match 39 = .ok (.iastore, 1) := by decide +kernel
theorem dX10_match_40 : decode cX10_match 40 = .ok (.iinc 2 1, 3) := by decide +kernel
theorem dX10_match_43 : decode cX10_match 43 = .ok (.goto (-34), 3) := by decide +kernel
theorem dX10_match_46 : decode cX10_match 46 = .ok (.iconst 1, 1) := by decide +kernel
theorem dX10_match_47 : decode cX10_match 47 = .ok (.istore_n 2, 1) := by decide +kernel
theorem dX10_match_48 : decode cX10_match 48 = .ok (.iload_n 2, 1) := by decide +kernel
theorem dX10_match_49 : decode cX10_match 49 = .ok (.ifCond .eq 175, 3) := by decide +kernel
theorem dX10_match_52 : decode cX10_match 52 = .ok (.iconst 0, 1) := by decide +kernel
theorem dX10_match_53 : decode cX10_match 53 = .ok (.istore_n 2, 1) := by decide +kernel
theorem dX10_match_54 : decode cX10_match 54 = .ok (.iconst 0, 1) := by decide +kernel
theorem dX10_match_55 : decode cX10_match 55 = .ok (.istore_n 3, 1) := by decide +kernel
theorem dX10_match_56 : decode cX10_match 56 = .ok (.iload_n 3, 1) := by decide +kernel
theorem dX10_match_57 : decode cX10_match 57 = .ok (.aload_n 0, 1) := by decide +kernel
theorem dX10_match_58 : decode cX10_match 58 = .ok (.invokevirtual 190, 3) := by decide +kernel
theorem dX10_match_61 : decode cX10_match 61 = .ok (.if_icmp .ge 160, 3) := by decide +kernel
theorem dX10_match_64 : decode cX10_match 64 = .ok (.aload_n 0, 1) := by decide +kernel
theorem dX10_match_65 : decode cX10_match 65 = .ok (.getfield 68, 3) := by decide +kernel
theorem dX10_match_68 : decode cX10_match 68 = .ok (.iload_n 3, 1) := by decide +kernel
theorem dX10_match_69 : decode cX10_match 69 = .ok (.iaload, 1) := by decide +kernel
theorem dX10_match_70 : decode cX10_match 70 = .ok (.ifCond .ge 145, 3) := by decide +kernel
theorem dX10_match_215 : decode cX10_match 215 = .ok (.iinc 3 1, 3) := by decide +kernel
theorem dX10_match_218 : decode cX10_match 218 = .ok (.goto (-162), 3) := by decide +kernel
theorem dX10_match_221 : decode cX10_match 221 = .ok (.goto (-173), 3) := by decide +kernel
theorem dX10_match_224 : decode cX10_match 224 = .ok (.aload_n 0, 1) := by decide +kernel
theorem dX10_match_225 : decode cX10_match 225 = .ok (.getfield 68, 3) := by decide +kernel
theorem dX10_match_228 : decode cX10_match 228 = .ok (.aload_n 0, 1) := by decide +kernel
theorem dX10_match_229 : decode cX10_match 229 = .ok (.invokevirtual 202, 3) := by decide +kernel
theorem dX10_match_232 : decode cX10_match 232 = .ok (.iaload, 1) := by decide +kernel
theorem dX10_match_233 : decode cX10_match 233 = .ok (.istore_n 3, 1) := by decide +kernel
theorem dX10_match_234 : decode cX10_match 234 = .ok (.iload_n 3, 1) := by decide +kernel
theorem dX10_match_235 : decode cX10_match 235 = .ok (.ifCond .ge 7, 3) := by decide +kernel
theorem dX10_match_242 : decode cX10_match 242 = .ok (.iload_n 3, 1) := by decide +kernel
theorem dX10_match_243 : decode cX10_match 243 = .ok (.ireturn, 1) := by decide +kernel
theorem dX10_mays_0 : decode cX10_mays 0 = .ok (.iconst 0, 1) := by decide +kernel
theorem dX10_mays_1 : decode cX10_mays 1 = .ok (.istore_n 2, 1) := by decide +kernel
theorem dX10_mays_2 : decode cX10_mays 2 = .ok (.iconst 0, 1) := by decide +kernel
theorem dX10_mays_3 : decode cX10_mays 3 = .ok (.istore_n 3, 1) := by decide +kernel
theorem dX10_mays_4 : decode cX10_mays 4 = .ok (.iload_n 3, 1) := by decide +kernel
theorem dX10_mays_5 : decode cX10_mays 5 = .ok (.aload_n 0, 1) := by decide +kernel
theorem dX10_mays_6 : decode cX10_mays 6 = .ok (.getfield 13, 3) := by decide +kernel
theorem dX10_mays_9 : decode cX10_mays 9 = .ok (.iconst 0, 1) := by decide +kernel
theorem dX10_mays_10 : decode cX10_mays 10 = .ok (.iaload, 1) := by decide +kernel
theorem dX10_mays_11 : decode cX10_mays 11 = .ok (.if_icmp .ge 62, 3) := by decide +kernel
theorem dX10_mays_73 : decode cX10_mays 73 = .ok (.iload_n 2, 1) := by decide +kernel
theorem dX10_mays_74 : decode cX10_mays 74 = .ok (.ireturn, 1) := by decide +kernel
theorem dX10_shuffled_0 : decode cX10_shuffled 0 = .ok (.iload_n 1, 1) := by decide +kernel
theorem dX10_shuffled_1 : decode cX10_shuffled 1 = .ok (.ifCond .ge 10, 3) := by decide +kernel
theorem dX10_shuffled_4 : decode cX10_shuffled 4 = .ok (.aload_n 0, 1) := by decide +kernel
theorem dX10_shuffled_5 : decode cX10_shuffled 5 = .ok (.bipush (-4), 2) := by decide +kernel
theorem dX10_shuffled_7 : decode cX10_shuffled 7 = .ok (.invokevirtual 94, 3) := by decide +kernel
theorem dX10_shuffled_10 : decode cX10_shuffled 10 = .ok (.ireturn, 1) := by decide +kernel
theorem dX10_shuffled_11 : decode cX10_shuffled 11 = .ok (.iload_n 1, 1) := by decide +kernel
theorem dX10_shuffled_12 : decode cX10_shuffled 12 = .ok (.bipush 30, 2) := by decide +kernel
theorem dX10_shuffled_14 : decode cX10_shuffled 14 = .ok (.if_icmp .le 10, 3) := by decide +kernel
theorem dX10_shuffled_17 : decode cX10_shuffled 17 = .ok (.aload_n 0, 1) := by decide +kernel
theorem dX10_shuffled_18 : decode cX10_shuffled 18 = .ok (.bipush (-6), 2) := by decide +kernel
theorem dX10_shuffled_20 : decode cX10_shuffled 20 = .ok (.invokevirtual 94, 3) := by decide +kernel
theorem dX10_shuffled_23 : decode cX10_shuffled 23 = .ok (.ireturn, 1) := by decide +kernel
theorem dX10_shuffled_24 : decode cX10_shuffled 24 = .ok (.iload_n 2, 1) := by decide +kernel
theorem dX10_shuffled_25 : decode cX10_shuffled 25 = .ok (.istore_n 3, 1) := by decide +kernel
theorem dX10_shuffled_26 : decode cX10_shuffled 26 = .ok (.aload_n 0, 1) := by decide +kernel
theorem dX10_shuffled_27 : decode cX10_shuffled 27 = .ok (.invokevirtual 161, 3) := by decide +kernel
theorem dX10_shuffled_30 : decode cX10_shuffled 30 = .ok (.iconst 0, 1) := by decide +kernel
theorem dX10_shuffled_31 : decode cX10_shuffled 31 = .ok (.istore 4, 2) := by decide +kernel
theorem dX10_shuffled_33 : decode cX10_shuffled 33 = .ok (.iload 4, 2) := by decide +kernel
theorem dX10_shuffled_35 : decode cX10_shuffled 35 = .ok (.iload_n 1, 1) := by decide +kernel
theorem dX10_shuffled_36 : decode cX10_shuffled 36 = .ok (.if_icmp .ge 67, 3) := by decide +kernel
theorem dX10_shuffled_39 : decode cX10_shuffled 39 = .ok (.aload_n 0, 1) := by decide +kernel
theorem dX10_shuffled_40 : decode cX10_shuffled 40 = .ok (.iconst (-1), 1) := by decide +kernel
theorem dX10_shuffled_41 : decode cX10_shuffled 41 = .ok (.invokevirtual 227, 3) := by decide +kernel
theorem dX10_shuffled_44 : decode cX10_shuffled 44 = .ok (.istore 5, 2) := by decide +kernel
theorem dX10_shuffled_46 : decode cX10_shuffled 46 = .ok (.iload 5, 2) := by decide +kernel
theorem dX10_shuffled_48 : decode cX10_shuffled 48 = .ok (.ifCond .le 49, 3) := by decide +kernel
theorem dX10_shuffled_97 : decode cX10_shuffled 97 = .ok (.iinc 4 1, 3) := by decide +kernel
theorem dX10_shuffled_100 : decode cX10_shuffled 100 = .ok (.goto (-67), 3) := by decide +kernel
theorem dX10_shuffled_103 : decode cX10_shuffled 103 = .ok (.aload_n 0, 1) := by decide +kernel
theorem dX10_shuffled_104 : decode cX10_shuffled 104 = .ok (.invokevirtual 187, 3) := by decide +kernel
theorem dX10_shuffled_107 : decode cX10_shuffled 107 = .ok (.istore 4, 2) := by decide +kernel
theorem dX10_shuffled_109 : decode cX10_shuffled 109 = .ok (.aload_n 0, 1) := by decide +kernel
theorem dX10_shuffled_110 : decode cX10_shuffled 110 = .ok (.invokevirtual 199, 3) := by decide +kernel
theorem dX10_shuffled_113 : decode cX10_shuffled 113 = .ok (.aload_n 0, 1) := by decide +kernel
theorem dX10_shuffled_114 : decode cX10_shuffled 114 = .ok (.getfield 68, 3) := by decide +kernel
theorem dX10_shuffled_117 : decode cX10_shuffled 117 = .ok (.iload 4, 2) := by decide +kernel
theorem dX10_shuffled_119 : decode cX10_shuffled 119 = .ok (.iaload, 1) := by decide +kernel
theorem dX10_shuffled_120 : decode cX10_shuffled 120 = .ok (.ifCond .ge 8, 3) := by decide +kernel
theorem dX10_shuffled_128 : decode cX10_shuffled 128 = .ok (.aload_n 0, 1) := by decide +kernel
theorem dX10_shuffled_129 : decode cX10_shuffled 129 = .ok (.getfield 68, 3) := by decide +kernel
theorem dX10_shuffled_132 : decode cX10_shuffled 132 = .ok (.iload 4, 2) := by decide +kernel
theorem dX10_shuffled_134 : decode cX10_shuffled 134 = .ok (.iaload, 1) := by decide +kernel
theorem dX10_shuffled_135 : decode cX10_shuffled 135 = .ok (.ireturn, 1) := by decide +kernel
theorem dX10_sights_0 : decode cX10_sights 0 = .ok (.iload_n 1, 1) := by decide +kernel
theorem dX10_sights_1 : decode cX10_sights 1 = .ok (.ifCond .lt 13, 3) := by decide +kernel
theorem dX10_sights_4 : decode cX10_sights 4 = .ok (.iload_n 1, 1) := by decide +kernel
theorem dX10_sights_5 : decode cX10_sights 5 = .ok (.aload_n 0, 1) := by decide +kernel
theorem dX10_sights_6 : decode cX10_sights 6 = .ok (.getfield 13, 3) := by decide +kernel
theorem dX10_sights_9 : decode cX10_sights 9 = .ok (.iconst 1, 1) := by decide +kernel
theorem dX10_sights_10 : decode cX10_sights 10 = .ok (.iaload, 1) := by decide +kernel
theorem dX10_sights_11 : decode cX10_sights 11 = .ok (.if_icmp .lt 9, 3) := by decide +kernel
theorem dX10_sights_14 : decode cX10_sights 14 = .ok (.aload_n 0, 1) := by decide +kernel
theorem dX10_sights_15 : decode cX10_sights 15 = .ok (.iconst (-1), 1) := by decide +kernel
theorem dX10_sights_16 : decode cX10_sights 16 = .ok (.invokevirtual 94, 3) := by decide +kernel
theorem dX10_sights_19 : decode cX10_sights 19 = .ok (.ireturn, 1) := by decide +kernel
theorem dX10_count_0 : decode cX10_count 0 = .ok (.iload_n 1, 1) := by decide +kernel
theorem dX10_count_1 : decode cX10_count 1 = .ok (.tableswitch 47 7 9 #[27, 32, 37], 27) := by decide +kernel
theorem dX10_count_28 : decode cX10_count 28 = .ok (.aload_n 0, 1) := by decide +kernel
theorem dX10_count_29 : decode cX10_count 29 = .ok (.getfield 217, 3) := by decide +kernel
theorem dX10_count_32 : decode cX10_count 32 = .ok (.ireturn, 1) := by decide +kernel
theorem dX10_count_33 : decode cX10_count 33 = .ok (.aload_n 0, 1) := by decide +kernel
theorem dX10_count_34 : decode cX10_count 34 = .ok (.getfield 98, 3) := by decide +kernel
theorem dX10_count_37 : decode cX10_count 37 = .ok (.ireturn, 1) := by decide +kernel
theorem dX10_count_38 : decode cX10_count 38 = .ok (.aload_n 0, 1) := by decide +kernel
theorem dX10_count_39 : decode cX10_count 39 = .ok (.invokevirtual 161, 3) := by decide +kernel
theorem dX10_count_42 : decode cX10_count 42 = .ok (.aload_n 0, 1) := by decide +kernel
theorem dX10_count_43 : decode cX10_count 43 = .ok (.iconst (-1), 1) := by decide +kernel
theorem dX10_count_44 : decode cX10_count 44 = .ok (.invokevirtual 227, 3) := by decide +kernel
theorem dX10_count_47 : decode cX10_count 47 = .ok (.ireturn, 1) := by decide +kernel
theorem dX10_count_48 : decode cX10_count 48 = .ok (.iload_n 1, 1) := by decide +kernel
theorem dX10_count_49 : decode cX10_count 49 = .ok (.ifCond .lt 18, 3) := by decide +kernel
theorem dX10_count_52 : decode cX10_count 52 = .ok (.iload_n 1, 1) := by decide +kernel
theorem dX10_count_53 : decode cX10_count 53 = .ok (.bipush 7, 2) := by decide +kernel
theorem dX10_count_55 : decode cX10_count 55 = .ok (.if_icmp .ge 12, 3) := by decide +kernel
theorem dX10_count_58 : decode cX10_count 58 = .ok (.aload_n 0, 1) := by decide +kernel
theorem dX10_count_59 : decode cX10_count 59 = .ok (.getfield 13, 3) := by decide +kernel
theorem dX10_count_62 : decode cX10_count 62 = .ok (.iload_n 1, 1) := by decide +kernel
theorem dX10_count_63 : decode cX10_count 63 = .ok (.iaload, 1) := by decide +kernel
theorem dX10_count_64 : decode cX10_count 64 = .ok (.goto 29, 3) := by decide +kernel
theorem dX10_count_67 : decode cX10_count 67 = .ok (.iload_n 1, 1) := by decide +kernel
theorem dX10_count_68 : decode cX10_count 68 = .ok (.bipush 11, 2) := by decide +kernel
theorem dX10_count_70 : decode cX10_count 70 = .ok (.if_icmp .lt 21, 3) := by decide +kernel
theorem dX10_count_73 : decode cX10_count 73 = .ok (.iload_n 1, 1) := by decide +kernel
theorem dX10_count_74 : decode cX10_count 74 = .ok (.bipush 16, 2) := by decide +kernel
theorem dX10_count_76 : decode cX10_count 76 = .ok (.if_icmp .gt 15, 3) := by decide +kernel
theorem dX10_count_79 : decode cX10_count 79 = .ok (.aload_n 0, 1) := by decide +kernel
theorem dX10_count_80 : decode cX10_count 80 = .ok (.getfield 7, 3) := by decide +kernel
theorem dX10_count_83 : decode cX10_count 83 = .ok (.iload_n 1, 1) := by decide +kernel
theorem dX10_count_84 : decode cX10_count 84 = .ok (.bipush 10, 2) := by decide +kernel
theorem dX10_count_86 : decode cX10_count 86 = .ok (.isub, 1) := by decide +kernel
theorem dX10_count_87 : decode cX10_count 87 = .ok (.iaload, 1) := by decide +kernel
theorem dX10_count_88 : decode cX10_count 88 = .ok (.goto 5, 3) := by decide +kernel
theorem dX10_count_91 : decode cX10_count 91 = .ok (.bipush (-9), 2) := by decide +kernel
theorem dX10_count_93 : decode cX10_count 93 = .ok (.ireturn, 1) := by decide +kernel
