theorem dL_law_0 : decode code 0 = .ok (.new 8, 3) := by decide +kernel
theorem dL_law_3 : decode code 3 = .ok (.dup, 1) := by decide +kernel
theorem dL_law_4 : decode code 4 = .ok (.aload_n 0, 1) := by decide +kernel
theorem dL_law_5 : decode code 5 = .ok (.iconst 0, 1) := by decide +kernel
theorem dL_law_6 : decode code 6 = .ok (.invokestatic 63, 3) := by decide +kernel
theorem dL_law_9 : decode code 9 = .ok (.i2l, 1) := by decide +kernel
theorem dL_law_10 : decode code 10 = .ok (.aload_n 0, 1) := by decide +kernel
theorem dL_law_11 : decode code 11 = .ok (.iconst 1, 1) := by decide +kernel
theorem dL_law_12 : decode code 12 = .ok (.invokestatic 63, 3) := by decide +kernel
theorem dL_law_15 : decode code 15 = .ok (.i2l, 1) := by decide +kernel
theorem dL_law_16 : decode code 16 = .ok (.aload_n 0, 1) := by decide +kernel
theorem dL_law_17 : decode code 17 = .ok (.iconst 2, 1) := by decide +kernel
theorem dL_law_18 : decode code 18 = .ok (.invokestatic 63, 3) := by decide +kernel
theorem dL_law_21 : decode code 21 = .ok (.i2l, 1) := by decide +kernel
theorem dL_law_22 : decode code 22 = .ok (.invokespecial 69, 3) := by decide +kernel
theorem dL_law_25 : decode code 25 = .ok (.astore_n 1, 1) := by decide +kernel
theorem dL_law_26 : decode code 26 = .ok (.new 72, 3) := by decide +kernel
theorem dL_law_29 : decode code 29 = .ok (.dup, 1) := by decide +kernel
theorem dL_law_30 : decode code 30 = .ok (.aload_n 0, 1) := by decide +kernel
theorem dL_law_31 : decode code 31 = .ok (.iconst 0, 1) := by decide +kernel
theorem dL_law_32 : decode code 32 = .ok (.invokestatic 63, 3) := by decide +kernel
theorem dL_law_35 : decode code 35 = .ok (.i2l, 1) := by decide +kernel
theorem dL_law_36 : decode code 36 = .ok (.aload_n 0, 1) := by decide +kernel
theorem dL_law_37 : decode code 37 = .ok (.iconst 1, 1) := by decide +kernel
theorem dL_law_38 : decode code 38 = .ok (.invokestatic 63, 3) := by decide +kernel
theorem dL_law_41 : decode code 41 = .ok (.i2l, 1) := by decide +kernel
theorem dL_law_42 : decode code 42 = .ok (.aload_n 0, 1) := by decide +kernel
theorem dL_law_43 : decode code 43 = .ok (.iconst 2, 1) := by decide +kernel
theorem dL_law_44 : decode code 44 = .ok (.invokestatic 63, 3) := by decide +kernel
theorem dL_law_47 : decode code 47 = .ok (.i2l, 1) := by decide +kernel
theorem dL_law_48 : decode code 48 = .ok (.invokespecial 74, 3) := by decide +kernel
theorem dL_law_51 : decode code 51 = .ok (.astore_n 2, 1) := by decide +kernel
theorem dL_law_52 : decode code 52 = .ok (.iconst 1, 1) := by decide +kernel
theorem dL_law_53 : decode code 53 = .ok (.newarray .long, 2) := by decide +kernel
theorem dL_law_55 : decode code 55 = .ok (.astore_n 3, 1) := by decide +kernel
theorem dL_law_56 : decode code 56 = .ok (.iconst 3, 1) := by decide +kernel
theorem dL_law_57 : decode code 57 = .ok (.istore 4, 2) := by decide +kernel
theorem dL_law_59 : decode code 59 = .ok (.iload 4, 2) := by decide +kernel
theorem dL_law_61 : decode code 61 = .ok (.aload_n 0, 1) := by decide +kernel
theorem dL_law_62 : decode code 62 = .ok (.arraylength, 1) := by decide +kernel
theorem dL_law_63 : decode code 63 = .ok (.bipush 11, 2) := by decide +kernel
theorem dL_law_65 : decode code 65 = .ok (.isub, 1) := by decide +kernel
theorem dL_law_66 : decode code 66 = .ok (.if_icmp .gt (1266), 3) := by decide +kernel
theorem dL_law_69 : decode code 69 = .ok (.aload_n 0, 1) := by decide +kernel
theorem dL_law_70 : decode code 70 = .ok (.iload 4, 2) := by decide +kernel
theorem dL_law_72 : decode code 72 = .ok (.iaload, 1) := by decide +kernel
theorem dL_law_73 : decode code 73 = .ok (.bipush 15, 2) := by decide +kernel
theorem dL_law_75 : decode code 75 = .ok (.iand, 1) := by decide +kernel
theorem dL_law_76 : decode code 76 = .ok (.tableswitch 1250 0 15 #[80, 196, 326, 382, 395, 525, 641, 681, 741, 754, 767, 851, 891, 963, 1209, 1222], 80) := by decide +kernel
theorem dL_law_156 : decode code 156 = .ok (.aload_n 1, 1) := by decide +kernel
theorem dL_law_157 : decode code 157 = .ok (.aload_n 0, 1) := by decide +kernel
theorem dL_law_158 : decode code 158 = .ok (.iload 4, 2) := by decide +kernel
theorem dL_law_160 : decode code 160 = .ok (.iconst 1, 1) := by decide +kernel
theorem dL_law_161 : decode code 161 = .ok (.iadd, 1) := by decide +kernel
theorem dL_law_162 : decode code 162 = .ok (.iaload, 1) := by decide +kernel
theorem dL_law_163 : decode code 163 = .ok (.i2l, 1) := by decide +kernel
theorem dL_law_164 : decode code 164 = .ok (.bipush 32, 2) := by decide +kernel
theorem dL_law_166 : decode code 166 = .ok (.lshl, 1) := by decide +kernel
theorem dL_law_167 : decode code 167 = .ok (.aload_n 0, 1) := by decide +kernel
theorem dL_law_168 : decode code 168 = .ok (.iload 4, 2) := by decide +kernel
theorem dL_law_170 : decode code 170 = .ok (.iconst 2, 1) := by decide +kernel
theorem dL_law_171 : decode code 171 = .ok (.iadd, 1) := by decide +kernel
theorem dL_law_172 : decode code 172 = .ok (.iaload, 1) := by decide +kernel
theorem dL_law_173 : decode code 173 = .ok (.i2l, 1) := by decide +kernel
theorem dL_law_174 : decode code 174 = .ok (.ldc2_w 75, 3) := by decide +kernel
theorem dL_law_177 : decode code 177 = .ok (.land, 1) := by decide +kernel
theorem dL_law_178 : decode code 178 = .ok (.lor, 1) := by decide +kernel
theorem dL_law_179 : decode code 179 = .ok (.aload_n 0, 1) := by decide +kernel
theorem dL_law_180 : decode code 180 = .ok (.iload 4, 2) := by decide +kernel
theorem dL_law_182 : decode code 182 = .ok (.iconst 3, 1) := by decide +kernel
theorem dL_law_183 : decode code 183 = .ok (.iadd, 1) := by decide +kernel
theorem dL_law_184 : decode code 184 = .ok (.iaload, 1) := by decide +kernel
theorem dL_law_185 : decode code 185 = .ok (.i2l, 1) := by decide +kernel
theorem dL_law_186 : decode code 186 = .ok (.bipush 32, 2) := by decide +kernel
theorem dL_law_188 : decode code 188 = .ok (.lshl, 1) := by decide +kernel
theorem dL_law_189 : decode code 189 = .ok (.aload_n 0, 1) := by decide +kernel
theorem dL_law_190 : decode code 190 = .ok (.iload 4, 2) := by decide +kernel
theorem dL_law_192 : decode code 192 = .ok (.iconst 4, 1) := by decide +kernel
theorem dL_law_193 : decode code 193 = .ok (.iadd, 1) := by decide +kernel
theorem dL_law_194 : decode code 194 = .ok (.iaload, 1) := by decide +kernel
theorem dL_law_195 : decode code 195 = .ok (.i2l, 1) := by decide +kernel
theorem dL_law_196 : decode code 196 = .ok (.ldc2_w 75, 3) := by decide +kernel
theorem dL_law_199 : decode code 199 = .ok (.land, 1) := by decide +kernel
theorem dL_law_200 : decode code 200 = .ok (.lor, 1) := by decide +kernel
theorem dL_law_201 : decode code 201 = .ok (.aload_n 0, 1) := by decide +kernel
theorem dL_law_202 : decode code 202 = .ok (.iload 4, 2) := by decide +kernel
theorem dL_law_204 : decode code 204 = .ok (.iconst 5, 1) := by decide +kernel
theorem dL_law_205 : decode code 205 = .ok (.iadd, 1) := by decide +kernel
theorem dL_law_206 : decode code 206 = .ok (.iaload, 1) := by decide +kernel
theorem dL_law_207 : decode code 207 = .ok (.aload_n 3, 1) := by decide +kernel
theorem dL_law_208 : decode code 208 = .ok (.invokestatic 77, 3) := by decide +kernel
theorem dL_law_211 : decode code 211 = .ok (.istore 5, 2) := by decide +kernel
theorem dL_law_213 : decode code 213 = .ok (.aload_n 2, 1) := by decide +kernel
theorem dL_law_214 : decode code 214 = .ok (.aload_n 0, 1) := by decide +kernel
theorem dL_law_215 : decode code 215 = .ok (.iload 4, 2) := by decide +kernel
theorem dL_law_217 : decode code 217 = .ok (.iconst 1, 1) := by decide +kernel
theorem dL_law_218 : decode code 218 = .ok (.iadd, 1) := by decide +kernel
theorem dL_law_219 : decode code 219 = .ok (.iaload, 1) := by decide +kernel
theorem dL_law_220 : decode code 220 = .ok (.i2l, 1) := by decide +kernel
theorem dL_law_221 : decode code 221 = .ok (.bipush 32, 2) := by decide +kernel
