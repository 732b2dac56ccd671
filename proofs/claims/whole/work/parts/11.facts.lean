theorem xfe_X0_11 : xi_tab xfl_X0 11 = some (0, 0, 3) := by decide +kernel
theorem xfe_X0_19 : xi_tab xfl_X0 19 = some (5, 5, 3) := by decide +kernel
theorem xfe_X0_52 : xi_tab xfl_X0 52 = some (0, 1, 0) := by decide +kernel
theorem xfe_X0_56 : xi_tab xfl_X0 56 = some (0, 2, 0) := by decide +kernel
theorem xcse_X0_15 : xi_tab xcs_X0 15 = some (4, 1) := by decide +kernel
theorem xcse_X0_24 : xi_tab xcs_X0 24 = some (1, 1) := by decide +kernel
theorem xcse_X0_28 : xi_tab xcs_X0 28 = some (1, 1) := by decide +kernel
theorem xcve_X0_31 : xi_tab xcv_X0 31 = some (2, 1) := by decide +kernel
theorem xcve_X0_34 : xi_tab xcv_X0 34 = some (4, 1) := by decide +kernel
theorem xcse_X0_40 : xi_tab xcs_X0 40 = some (1, 1) := by decide +kernel
theorem xcse_X0_45 : xi_tab xcs_X0 45 = some (1, 1) := by decide +kernel
theorem xcve_X0_48 : xi_tab xcv_X0 48 = some (5, 1) := by decide +kernel
theorem xfe_X1_9 : xi_tab xfl_X1 9 = some (1, 2, 3) := by decide +kernel
theorem xfe_X1_15 : xi_tab xfl_X1 15 = some (1, 3, 3) := by decide +kernel
theorem xfe_X1_18 : xi_tab xfl_X1 18 = some (1, 4, 3) := by decide +kernel
theorem xfe_X1_21 : xi_tab xfl_X1 21 = some (5, 0, 0) := by decide +kernel
theorem xfe_X1_27 : xi_tab xfl_X1 27 = some (1, 0, 0) := by decide +kernel
theorem xfe_X1_28 : xi_tab xfl_X1 28 = some (5, 1, 0) := by decide +kernel
theorem xfe_X1_31 : xi_tab xfl_X1 31 = some (1, 1, 0) := by decide +kernel
theorem xfe_X1_38 : xi_tab xfl_X1 38 = some (5, 8, 3) := by decide +kernel
theorem xcve_X1_34 : xi_tab xcv_X1 34 = some (2, 1) := by decide +kernel
theorem xcve_X1_41 : xi_tab xcv_X1 41 = some (3, 1) := by decide +kernel
theorem xcse_X1_45 : xi_tab xcs_X1 45 = some (3, 1) := by decide +kernel
theorem xfe_X2_9 : xi_tab xfl_X2 9 = some (2, 0, 3) := by decide +kernel
theorem xfe_X2_15 : xi_tab xfl_X2 15 = some (5, 5, 3) := by decide +kernel
theorem xcse_X2_18 : xi_tab xcs_X2 18 = some (5, 0) := by decide +kernel
theorem xcse_X2_24 : xi_tab xcs_X2 24 = some (2, 1) := by decide +kernel
theorem xcse_X2_30 : xi_tab xcs_X2 30 = some (6, 1) := by decide +kernel
theorem xcve_X2_34 : xi_tab xcv_X2 34 = some (4, 1) := by decide +kernel
theorem xcse_X2_44 : xi_tab xcs_X2 44 = some (2, 1) := by decide +kernel
theorem xcse_X2_40 : xi_tab xcs_X2 40 = some (3, 1) := by decide +kernel
theorem xfe_X3_9 : xi_tab xfl_X3 9 = some (3, 2, 3) := by decide +kernel
theorem xfe_X3_15 : xi_tab xfl_X3 15 = some (3, 0, 0) := by decide +kernel
theorem xfe_X3_19 : xi_tab xfl_X3 19 = some (3, 1, 0) := by decide +kernel
theorem xfe_X3_34 : xi_tab xfl_X3 34 = some (5, 0, 0) := by decide +kernel
theorem xfe_X3_49 : xi_tab xfl_X3 49 = some (6, 1, 0) := by decide +kernel
theorem xfe_X3_54 : xi_tab xfl_X3 54 = some (6, 2, 3) := by decide +kernel
theorem xcse_X3_22 : xi_tab xcs_X3 22 = some (2, 0) := by decide +kernel
theorem xcve_X3_28 : xi_tab xcv_X3 28 = some (2, 1) := by decide +kernel
theorem xcse_X3_41 : xi_tab xcs_X3 41 = some (2, 1) := by decide +kernel
theorem xcve_X3_45 : xi_tab xcv_X3 45 = some (4, 0) := by decide +kernel
theorem xcse_X3_57 : xi_tab xcs_X3 57 = some (2, 1) := by decide +kernel
theorem xcve_X3_63 : xi_tab xcv_X3 63 = some (2, 1) := by decide +kernel
theorem xcse_X3_37 : xi_tab xcs_X3 37 = some (3, 1) := by decide +kernel
theorem xcse_X4_11 : xi_tab xcs_X4 11 = some (2, 1) := by decide +kernel
theorem xcse_X4_15 : xi_tab xcs_X4 15 = some (2, 1) := by decide +kernel
theorem xcse_X4_21 : xi_tab xcs_X4 21 = some (2, 1) := by decide +kernel
theorem xfe_X5_9 : xi_tab xfl_X5 9 = some (4, 2, 0) := by decide +kernel
theorem xfe_X5_15 : xi_tab xfl_X5 15 = some (4, 0, 3) := by decide +kernel
theorem xfe_X5_46 : xi_tab xfl_X5 46 = some (5, 0, 0) := by decide +kernel
theorem xfe_X5_49 : xi_tab xfl_X5 49 = some (5, 5, 3) := by decide +kernel
theorem xfe_X5_57 : xi_tab xfl_X5 57 = some (4, 1, 0) := by decide +kernel
theorem xfe_X5_60 : xi_tab xfl_X5 60 = some (6, 1, 0) := by decide +kernel
theorem xfe_X5_65 : xi_tab xfl_X5 65 = some (6, 2, 3) := by decide +kernel
theorem xfe_X5_73 : xi_tab xfl_X5 73 = some (5, 7, 3) := by decide +kernel
theorem xfe_X5_76 : xi_tab xfl_X5 76 = some (5, 8, 3) := by decide +kernel
theorem xfe_X5_79 : xi_tab xfl_X5 79 = some (5, 9, 3) := by decide +kernel
theorem xfe_X5_82 : xi_tab xfl_X5 82 = some (5, 10, 3) := by decide +kernel
theorem xfe_X5_85 : xi_tab xfl_X5 85 = some (5, 1, 0) := by decide +kernel
theorem xcve_X5_19 : xi_tab xcv_X5 19 = some (1, 0) := by decide +kernel
theorem xcve_X5_24 : xi_tab xcv_X5 24 = some (2, 0) := by decide +kernel
theorem xcve_X5_28 : xi_tab xcv_X5 28 = some (3, 0) := by decide +kernel
theorem xcve_X5_32 : xi_tab xcv_X5 32 = some (3, 0) := by decide +kernel
theorem xcve_X5_35 : xi_tab xcv_X5 35 = some (1, 0) := by decide +kernel
theorem xcve_X5_38 : xi_tab xcv_X5 38 = some (2, 0) := by decide +kernel
theorem xcve_X5_42 : xi_tab xcv_X5 42 = some (3, 1) := by decide +kernel
theorem xcve_X5_53 : xi_tab xcv_X5 53 = some (2, 1) := by decide +kernel
theorem xcse_X5_68 : xi_tab xcs_X5 68 = some (1, 1) := by decide +kernel
theorem xfe_X6_9 : xi_tab xfl_X6 9 = some (5, 5, 3) := by decide +kernel
theorem xfe_X6_15 : xi_tab xfl_X6 15 = some (5, 6, 3) := by decide +kernel
theorem xfe_X6_18 : xi_tab xfl_X6 18 = some (5, 7, 3) := by decide +kernel
theorem xfe_X6_21 : xi_tab xfl_X6 21 = some (5, 8, 3) := by decide +kernel
theorem xfe_X6_24 : xi_tab xfl_X6 24 = some (5, 9, 3) := by decide +kernel
theorem xfe_X6_27 : xi_tab xfl_X6 27 = some (5, 10, 3) := by decide +kernel
theorem xfe_X6_30 : xi_tab xfl_X6 30 = some (5, 11, 3) := by decide +kernel
theorem xfe_X6_33 : xi_tab xfl_X6 33 = some (5, 12, 3) := by decide +kernel
theorem xfe_X6_36 : xi_tab xfl_X6 36 = some (5, 13, 3) := by decide +kernel
theorem xfe_X6_39 : xi_tab xfl_X6 39 = some (5, 0, 0) := by decide +kernel
theorem xfe_X6_43 : xi_tab xfl_X6 43 = some (5, 1, 0) := by decide +kernel
theorem xfe_X6_46 : xi_tab xfl_X6 46 = some (5, 2, 0) := by decide +kernel
theorem xfe_X6_49 : xi_tab xfl_X6 49 = some (5, 3, 0) := by decide +kernel
theorem xfe_X6_52 : xi_tab xfl_X6 52 = some (5, 4, 0) := by decide +kernel
theorem xkie_X6_91 : xi_tab xki_X6 91 = some 2097151 := by decide +kernel
theorem xcse_X6_55 : xi_tab xcs_X6 55 = some (2, 0) := by decide +kernel
theorem xcse_X6_61 : xi_tab xcs_X6 61 = some (5, 0) := by decide +kernel
theorem xcse_X6_67 : xi_tab xcs_X6 67 = some (4, 1) := by decide +kernel
theorem xcve_X6_73 : xi_tab xcv_X6 73 = some (2, 1) := by decide +kernel
theorem xcse_X6_76 : xi_tab xcs_X6 76 = some (2, 1) := by decide +kernel
theorem xcse_X6_82 : xi_tab xcs_X6 82 = some (2, 1) := by decide +kernel
theorem xcse_X6_85 : xi_tab xcs_X6 85 = some (2, 1) := by decide +kernel
theorem xcve_X6_92 : xi_tab xcv_X6 92 = some (2, 1) := by decide +kernel
theorem xcve_X6_99 : xi_tab xcv_X6 99 = some (2, 1) := by decide +kernel
theorem xcve_X6_102 : xi_tab xcv_X6 102 = some (3, 1) := by decide +kernel
theorem xcve_X6_105 : xi_tab xcv_X6 105 = some (2, 1) := by decide +kernel
theorem xcve_X6_108 : xi_tab xcv_X6 108 = some (2, 1) := by decide +kernel
theorem xcve_X6_111 : xi_tab xcv_X6 111 = some (2, 1) := by decide +kernel
theorem xcse_X6_114 : xi_tab xcs_X6 114 = some (1, 1) := by decide +kernel
theorem xcse_X6_119 : xi_tab xcs_X6 119 = some (1, 1) := by decide +kernel
theorem xcve_X6_122 : xi_tab xcv_X6 122 = some (2, 1) := by decide +kernel
theorem xcse_X6_125 : xi_tab xcs_X6 125 = some (2, 1) := by decide +kernel
theorem xcve_X6_129 : xi_tab xcv_X6 129 = some (4, 0) := by decide +kernel
theorem xcve_X6_133 : xi_tab xcv_X6 133 = some (3, 0) := by decide +kernel
theorem xcve_X6_137 : xi_tab xcv_X6 137 = some (4, 0) := by decide +kernel
theorem xcse_X6_88 : xi_tab xcs_X6 88 = some (2, 1) := by decide +kernel
theorem xcse_X6_95 : xi_tab xcs_X6 95 = some (3, 1) := by decide +kernel
theorem xfe_X7_9 : xi_tab xfl_X7 9 = some (6, 2, 3) := by decide +kernel
theorem xfe_X7_15 : xi_tab xfl_X7 15 = some (6, 0, 1) := by decide +kernel
theorem xfe_X7_19 : xi_tab xfl_X7 19 = some (6, 1, 0) := by decide +kernel
theorem xkle_X7_33 : xi_tab xkl_X7 33 = some 31 := by decide +kernel
theorem xcse_X7_23 : xi_tab xcs_X7 23 = some (2, 0) := by decide +kernel
theorem xcse_X7_29 : xi_tab xcs_X7 29 = some (2, 1) := by decide +kernel
theorem xfe_X8_11 : xi_tab xfl_X8 11 = some (7, 0, 3) := by decide +kernel
theorem xfe_X8_15 : xi_tab xfl_X8 15 = some (7, 1, 3) := by decide +kernel
theorem xfe_X8_21 : xi_tab xfl_X8 21 = some (7, 2, 3) := by decide +kernel
theorem xfe_X8_25 : xi_tab xfl_X8 25 = some (7, 3, 3) := by decide +kernel
theorem xfe_X8_28 : xi_tab xfl_X8 28 = some (7, 4, 3) := by decide +kernel
theorem xfe_X8_35 : xi_tab xfl_X8 35 = some (7, 5, 3) := by decide +kernel
theorem xfe_X8_42 : xi_tab xfl_X8 42 = some (7, 6, 3) := by decide +kernel
theorem xfe_X8_49 : xi_tab xfl_X8 49 = some (7, 7, 3) := by decide +kernel
theorem xfe_X8_56 : xi_tab xfl_X8 56 = some (7, 8, 3) := by decide +kernel
theorem xfe_X8_60 : xi_tab xfl_X8 60 = some (7, 9, 3) := by decide +kernel
theorem xfe_X8_64 : xi_tab xfl_X8 64 = some (7, 13, 2) := by decide +kernel
theorem xfe_X8_86 : xi_tab xfl_X8 86 = some (6, 2, 3) := by decide +kernel
theorem xfe_X8_92 : xi_tab xfl_X8 92 = some (6, 0, 1) := by decide +kernel
theorem xfe_X8_105 : xi_tab xfl_X8 105 = some (6, 1, 0) := by decide +kernel
theorem xfe_X8_129 : xi_tab xfl_X8 129 = some (5, 1, 0) := by decide +kernel
theorem xfe_X8_142 : xi_tab xfl_X8 142 = some (5, 7, 3) := by decide +kernel
theorem xfe_X8_151 : xi_tab xfl_X8 151 = some (5, 9, 3) := by decide +kernel
theorem xfe_X8_167 : xi_tab xfl_X8 167 = some (5, 8, 3) := by decide +kernel
theorem xfe_X8_176 : xi_tab xfl_X8 176 = some (5, 3, 0) := by decide +kernel
theorem xfe_X8_183 : xi_tab xfl_X8 183 = some (5, 4, 0) := by decide +kernel
theorem xfe_X8_192 : xi_tab xfl_X8 192 = some (5, 5, 3) := by decide +kernel
theorem xfe_X8_221 : xi_tab xfl_X8 221 = some (5, 6, 3) := by decide +kernel
theorem xfe_X8_248 : xi_tab xfl_X8 248 = some (3, 0, 0) := by decide +kernel
theorem xfe_X8_255 : xi_tab xfl_X8 255 = some (3, 1, 0) := by decide +kernel
theorem xfe_X8_271 : xi_tab xfl_X8 271 = some (5, 10, 3) := by decide +kernel
theorem xfe_X8_298 : xi_tab xfl_X8 298 = some (7, 11, 0) := by decide +kernel
theorem xfe_X8_301 : xi_tab xfl_X8 301 = some (7, 12, 2) := by decide +kernel
theorem xfe_X8_314 : xi_tab xfl_X8 314 = some (7, 10, 0) := by decide +kernel
theorem xkle_X8_289 : xi_tab xkl_X8 289 = some 12 := by decide +kernel
theorem xkle_X8_291 : xi_tab xkl_X8 291 = some 2147483647 := by decide +kernel
theorem xkle_X8_293 : xi_tab xkl_X8 293 = some 48271 := by decide +kernel
theorem xkle_X8_317 : xi_tab xkl_X8 317 = some 17 := by decide +kernel
theorem xkle_X8_319 : xi_tab xkl_X8 319 = some 31 := by decide +kernel
theorem xcse_X8_71 : xi_tab xcs_X8 71 = some (2, 1) := by decide +kernel
theorem xcve_X8_75 : xi_tab xcv_X8 75 = some (4, 1) := by decide +kernel
theorem xcve_X8_79 : xi_tab xcv_X8 79 = some (2, 1) := by decide +kernel
theorem xcve_X8_83 : xi_tab xcv_X8 83 = some (2, 1) := by decide +kernel
theorem xcve_X8_89 : xi_tab xcv_X8 89 = some (2, 1) := by decide +kernel
theorem xcve_X8_96 : xi_tab xcv_X8 96 = some (3, 1) := by decide +kernel
theorem xcse_X8_99 : xi_tab xcs_X8 99 = some (5, 0) := by decide +kernel
theorem xcve_X8_109 : xi_tab xcv_X8 109 = some (1, 2) := by decide +kernel
theorem xcve_X8_118 : xi_tab xcv_X8 118 = some (2, 1) := by decide +kernel
theorem xcve_X8_122 : xi_tab xcv_X8 122 = some (2, 0) := by decide +kernel
theorem xcve_X8_126 : xi_tab xcv_X8 126 = some (1, 0) := by decide +kernel
theorem xcve_X8_132 : xi_tab xcv_X8 132 = some (2, 1) := by decide +kernel
theorem xcve_X8_136 : xi_tab xcv_X8 136 = some (3, 1) := by decide +kernel
theorem xcse_X8_145 : xi_tab xcs_X8 145 = some (2, 1) := by decide +kernel
theorem xcve_X8_148 : xi_tab xcv_X8 148 = some (2, 1) := by decide +kernel
theorem xcse_X8_154 : xi_tab xcs_X8 154 = some (1, 1) := by decide +kernel
theorem xcve_X8_159 : xi_tab xcv_X8 159 = some (2, 1) := by decide +kernel
theorem xcse_X8_162 : xi_tab xcs_X8 162 = some (1, 1) := by decide +kernel
theorem xcve_X8_170 : xi_tab xcv_X8 170 = some (3, 1) := by decide +kernel
theorem xcve_X8_173 : xi_tab xcv_X8 173 = some (3, 1) := by decide +kernel
theorem xcve_X8_179 : xi_tab xcv_X8 179 = some (4, 1) := by decide +kernel
theorem xcve_X8_186 : xi_tab xcv_X8 186 = some (2, 1) := by decide +kernel
theorem xcve_X8_189 : xi_tab xcv_X8 189 = some (2, 0) := by decide +kernel
theorem xcse_X8_195 : xi_tab xcs_X8 195 = some (3, 1) := by decide +kernel
theorem xcve_X8_199 : xi_tab xcv_X8 199 = some (2, 1) := by decide +kernel
theorem xcve_X8_202 : xi_tab xcv_X8 202 = some (3, 0) := by decide +kernel
theorem xcve_X8_206 : xi_tab xcv_X8 206 = some (2, 0) := by decide +kernel
theorem xcve_X8_209 : xi_tab xcv_X8 209 = some (3, 0) := by decide +kernel
theorem xcve_X8_212 : xi_tab xcv_X8 212 = some (2, 1) := by decide +kernel
theorem xcve_X8_215 : xi_tab xcv_X8 215 = some (2, 1) := by decide +kernel
theorem xcve_X8_218 : xi_tab xcv_X8 218 = some (2, 1) := by decide +kernel
theorem xcve_X8_224 : xi_tab xcv_X8 224 = some (3, 1) := by decide +kernel
theorem xcve_X8_227 : xi_tab xcv_X8 227 = some (2, 0) := by decide +kernel
theorem xcve_X8_228 : xi_tab xcv_X8 228 = some (3, 0) := by decide +kernel
theorem xcve_X8_232 : xi_tab xcv_X8 232 = some (3, 1) := by decide +kernel
theorem xcve_X8_235 : xi_tab xcv_X8 235 = some (3, 0) := by decide +kernel
theorem xcve_X8_238 : xi_tab xcv_X8 238 = some (2, 0) := by decide +kernel
theorem xcve_X8_242 : xi_tab xcv_X8 242 = some (3, 1) := by decide +kernel
theorem xcve_X8_245 : xi_tab xcv_X8 245 = some (4, 0) := by decide +kernel
theorem xcve_X8_251 : xi_tab xcv_X8 251 = some (3, 0) := by decide +kernel
theorem xcve_X8_258 : xi_tab xcv_X8 258 = some (2, 1) := by decide +kernel
theorem xcve_X8_261 : xi_tab xcv_X8 261 = some (1, 1) := by decide +kernel
theorem xcve_X8_265 : xi_tab xcv_X8 265 = some (2, 1) := by decide +kernel
theorem xcve_X8_268 : xi_tab xcv_X8 268 = some (3, 1) := by decide +kernel
theorem xcse_X8_274 : xi_tab xcs_X8 274 = some (4, 1) := by decide +kernel
theorem xcve_X8_278 : xi_tab xcv_X8 278 = some (2, 1) := by decide +kernel
theorem xcve_X8_281 : xi_tab xcv_X8 281 = some (4, 1) := by decide +kernel
theorem xcve_X8_285 : xi_tab xcv_X8 285 = some (3, 2) := by decide +kernel
theorem xcve_X8_295 : xi_tab xcv_X8 295 = some (2, 0) := by decide +kernel
theorem xcse_X8_304 : xi_tab xcs_X8 304 = some (1, 1) := by decide +kernel
theorem xcve_X8_308 : xi_tab xcv_X8 308 = some (1, 1) := by decide +kernel
theorem xcve_X8_311 : xi_tab xcv_X8 311 = some (2, 1) := by decide +kernel
theorem xcve_X8_321 : xi_tab xcv_X8 321 = some (2, 1) := by decide +kernel
theorem xcve_X8_324 : xi_tab xcv_X8 324 = some (2, 2) := by decide +kernel
theorem xcse_X8_328 : xi_tab xcs_X8 328 = some (2, 1) := by decide +kernel
theorem xcve_X8_331 : xi_tab xcv_X8 331 = some (3, 1) := by decide +kernel
theorem xcse_X8_334 : xi_tab xcs_X8 334 = some (4, 1) := by decide +kernel
theorem xfe_X9_7 : xi_tab xfl_X9 7 = some (8, 0, 3) := by decide +kernel
theorem xfe_X9_13 : xi_tab xfl_X9 13 = some (8, 1, 3) := by decide +kernel
theorem xfe_X9_16 : xi_tab xfl_X9 16 = some (8, 2, 3) := by decide +kernel
theorem xfe_X9_19 : xi_tab xfl_X9 19 = some (8, 3, 3) := by decide +kernel
theorem xfe_X9_22 : xi_tab xfl_X9 22 = some (8, 4, 3) := by decide +kernel
theorem xfe_X9_25 : xi_tab xfl_X9 25 = some (8, 5, 3) := by decide +kernel
theorem xfe_X9_28 : xi_tab xfl_X9 28 = some (8, 6, 3) := by decide +kernel
theorem xfe_X9_31 : xi_tab xfl_X9 31 = some (8, 7, 3) := by decide +kernel
theorem xfe_X9_34 : xi_tab xfl_X9 34 = some (8, 8, 3) := by decide +kernel
theorem xfe_X9_37 : xi_tab xfl_X9 37 = some (8, 10, 3) := by decide +kernel
theorem xfe_X9_40 : xi_tab xfl_X9 40 = some (8, 11, 3) := by decide +kernel
theorem xfe_X9_43 : xi_tab xfl_X9 43 = some (8, 12, 3) := by decide +kernel
theorem xfe_X9_46 : xi_tab xfl_X9 46 = some (8, 14, 3) := by decide +kernel
theorem xfe_X9_49 : xi_tab xfl_X9 49 = some (8, 17, 2) := by decide +kernel
theorem xfe_X9_53 : xi_tab xfl_X9 53 = some (8, 20, 3) := by decide +kernel
theorem xfe_X9_56 : xi_tab xfl_X9 56 = some (8, 13, 0) := by decide +kernel
theorem xfe_X9_60 : xi_tab xfl_X9 60 = some (8, 15, 0) := by decide +kernel
theorem xfe_X9_84 : xi_tab xfl_X9 84 = some (8, 18, 0) := by decide +kernel
theorem xfe_X9_87 : xi_tab xfl_X9 87 = some (8, 19, 0) := by decide +kernel
theorem xfe_X9_125 : xi_tab xfl_X9 125 = some (8, 9, 0) := by decide +kernel
theorem xfe_X9_214 : xi_tab xfl_X9 214 = some (8, 16, 2) := by decide +kernel
theorem xkie_X9_217 : xi_tab xki_X9 217 = some 2097151 := by decide +kernel
theorem xkie_X9_245 : xi_tab xki_X9 245 = some 2147483646 := by decide +kernel
theorem xkle_X9_236 : xi_tab xkl_X9 236 = some 12 := by decide +kernel
theorem xkle_X9_246 : xi_tab xkl_X9 246 = some 48271 := by decide +kernel
theorem xkle_X9_248 : xi_tab xkl_X9 248 = some 2147483647 := by decide +kernel
theorem xkle_X9_254 : xi_tab xkl_X9 254 = some 8 := by decide +kernel
theorem xkle_X9_256 : xi_tab xkl_X9 256 = some 64 := by decide +kernel
theorem xkle_X9_258 : xi_tab xkl_X9 258 = some 4 := by decide +kernel
theorem xkle_X9_260 : xi_tab xkl_X9 260 = some 21 := by decide +kernel
theorem xkle_X9_268 : xi_tab xkl_X9 268 = some 31 := by decide +kernel
theorem xkle_X9_270 : xi_tab xkl_X9 270 = some 17 := by decide +kernel
theorem xcse_X9_63 : xi_tab xcs_X9 63 = some (3, 1) := by decide +kernel
theorem xcse_X9_67 : xi_tab xcs_X9 67 = some (1, 1) := by decide +kernel
theorem xcve_X9_71 : xi_tab xcv_X9 71 = some (2, 1) := by decide +kernel
theorem xcve_X9_75 : xi_tab xcv_X9 75 = some (2, 1) := by decide +kernel
theorem xcve_X9_78 : xi_tab xcv_X9 78 = some (4, 1) := by decide +kernel
theorem xcse_X9_81 : xi_tab xcs_X9 81 = some (1, 1) := by decide +kernel
theorem xcve_X9_90 : xi_tab xcv_X9 90 = some (2, 1) := by decide +kernel
theorem xcve_X9_93 : xi_tab xcv_X9 93 = some (2, 0) := by decide +kernel
theorem xcve_X9_97 : xi_tab xcv_X9 97 = some (4, 1) := by decide +kernel
theorem xcse_X9_101 : xi_tab xcs_X9 101 = some (1, 1) := by decide +kernel
theorem xcve_X9_104 : xi_tab xcv_X9 104 = some (3, 1) := by decide +kernel
theorem xcve_X9_108 : xi_tab xcv_X9 108 = some (2, 0) := by decide +kernel
theorem xcve_X9_111 : xi_tab xcv_X9 111 = some (3, 0) := by decide +kernel
theorem xcve_X9_115 : xi_tab xcv_X9 115 = some (2, 0) := by decide +kernel
theorem xcve_X9_118 : xi_tab xcv_X9 118 = some (2, 1) := by decide +kernel
theorem xcse_X9_121 : xi_tab xcs_X9 121 = some (5, 0) := by decide +kernel
theorem xcse_X9_128 : xi_tab xcs_X9 128 = some (4, 1) := by decide +kernel
theorem xcse_X9_132 : xi_tab xcs_X9 132 = some (2, 1) := by decide +kernel
theorem xcse_X9_136 : xi_tab xcs_X9 136 = some (2, 1) := by decide +kernel
theorem xcse_X9_139 : xi_tab xcs_X9 139 = some (2, 1) := by decide +kernel
theorem xcse_X9_143 : xi_tab xcs_X9 143 = some (3, 1) := by decide +kernel
theorem xcse_X9_147 : xi_tab xcs_X9 147 = some (4, 1) := by decide +kernel
theorem xcse_X9_151 : xi_tab xcs_X9 151 = some (3, 1) := by decide +kernel
theorem xcse_X9_154 : xi_tab xcs_X9 154 = some (2, 1) := by decide +kernel
theorem xcse_X9_157 : xi_tab xcs_X9 157 = some (3, 1) := by decide +kernel
theorem xcse_X9_160 : xi_tab xcs_X9 160 = some (2, 1) := by decide +kernel
theorem xcse_X9_163 : xi_tab xcs_X9 163 = some (1, 1) := by decide +kernel
theorem xcve_X9_167 : xi_tab xcv_X9 167 = some (2, 1) := by decide +kernel
theorem xcve_X9_170 : xi_tab xcv_X9 170 = some (3, 1) := by decide +kernel
theorem xcse_X9_173 : xi_tab xcs_X9 173 = some (2, 1) := by decide +kernel
theorem xcve_X9_177 : xi_tab xcv_X9 177 = some (2, 1) := by decide +kernel
theorem xcve_X9_180 : xi_tab xcv_X9 180 = some (4, 1) := by decide +kernel
theorem xcve_X9_183 : xi_tab xcv_X9 183 = some (1, 1) := by decide +kernel
theorem xcve_X9_187 : xi_tab xcv_X9 187 = some (1, 0) := by decide +kernel
theorem xcse_X9_190 : xi_tab xcs_X9 190 = some (1, 1) := by decide +kernel
theorem xcse_X9_193 : xi_tab xcs_X9 193 = some (3, 1) := by decide +kernel
theorem xcse_X9_196 : xi_tab xcs_X9 196 = some (2, 1) := by decide +kernel
theorem xcse_X9_199 : xi_tab xcs_X9 199 = some (1, 1) := by decide +kernel
theorem xcse_X9_202 : xi_tab xcs_X9 202 = some (2, 1) := by decide +kernel
theorem xcve_X9_205 : xi_tab xcv_X9 205 = some (2, 1) := by decide +kernel
theorem xcve_X9_208 : xi_tab xcv_X9 208 = some (4, 1) := by decide +kernel
theorem xcve_X9_211 : xi_tab xcv_X9 211 = some (5, 1) := by decide +kernel
theorem xcve_X9_218 : xi_tab xcv_X9 218 = some (4, 1) := by decide +kernel
theorem xcse_X9_221 : xi_tab xcs_X9 221 = some (2, 1) := by decide +kernel
theorem xcve_X9_224 : xi_tab xcv_X9 224 = some (4, 1) := by decide +kernel
theorem xcve_X9_227 : xi_tab xcv_X9 227 = some (5, 1) := by decide +kernel
theorem xcve_X9_230 : xi_tab xcv_X9 230 = some (2, 1) := by decide +kernel
theorem xcve_X9_233 : xi_tab xcv_X9 233 = some (3, 1) := by decide +kernel
theorem xcve_X9_238 : xi_tab xcv_X9 238 = some (3, 1) := by decide +kernel
theorem xcve_X9_241 : xi_tab xcv_X9 241 = some (3, 1) := by decide +kernel
theorem xcve_X9_250 : xi_tab xcv_X9 250 = some (2, 0) := by decide +kernel
theorem xcve_X9_262 : xi_tab xcv_X9 262 = some (2, 1) := by decide +kernel
theorem xcse_X9_265 : xi_tab xcs_X9 265 = some (1, 1) := by decide +kernel
theorem xcve_X9_272 : xi_tab xcv_X9 272 = some (2, 1) := by decide +kernel
theorem xcse_X9_275 : xi_tab xcs_X9 275 = some (4, 2) := by decide +kernel
theorem xkie_J6_265 : xi_tab xki_J6 265 = some 1431655765 := by decide +kernel
theorem xkie_J6_266 : xi_tab xki_J6 266 = some 858993459 := by decide +kernel
theorem xkie_J6_267 : xi_tab xki_J6 267 = some 252645135 := by decide +kernel
