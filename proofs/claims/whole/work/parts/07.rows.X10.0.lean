theorem d_X10_init_0 : pm_i e_X10_init 0 .aload_n .aload 0 1 := Or.inl ⟨0, by decide +kernel, rfl, rfl⟩
theorem d_X10_init_1 : pm_D e_X10_init 1 3 (.invokespecial 1) 4 := ⟨by decide +kernel, rfl⟩
theorem d_X10_init_4 : pm_i e_X10_init 4 .aload_n .aload 0 5 := Or.inl ⟨0, by decide +kernel, rfl, rfl⟩
theorem d_X10_init_5 : pm_P e_X10_init 5 6 7 := Or.inr <| Or.inl ⟨6, by decide +kernel, by decide +kernel, rfl⟩
theorem d_X10_init_7 : pm_D e_X10_init 7 2 (.newarray .int) 9 := ⟨by decide +kernel, rfl⟩
theorem d_X10_init_9 : pm_F e_X10_init 9 .putfield (RX10, "findings", "[I") 12 := ⟨7, by decide +kernel, rfl, Or.inl wm_737⟩
theorem d_X10_init_12 : pm_i e_X10_init 12 .aload_n .aload 0 13 := Or.inl ⟨0, by decide +kernel, rfl, rfl⟩
theorem d_X10_init_13 : pm_PL e_X10_init 13 1 14 := Or.inl ⟨1, by decide +kernel, by decide +kernel, rfl⟩
theorem d_X10_init_14 : pm_F e_X10_init 14 .putfield (RX10, "lower", "J") 17 := ⟨13, by decide +kernel, rfl, Or.inl wm_740⟩
theorem d_X10_init_17 : pm_i e_X10_init 17 .aload_n .aload 0 18 := Or.inl ⟨0, by decide +kernel, rfl, rfl⟩
theorem d_X10_init_18 : pm_P e_X10_init 18 10 20 := Or.inr <| Or.inl ⟨10, by decide +kernel, by decide +kernel, rfl⟩
theorem d_X10_init_20 : pm_D e_X10_init 20 2 (.newarray .int) 22 := ⟨by decide +kernel, rfl⟩
theorem d_X10_init_22 : pm_F e_X10_init 22 .putfield (RX10, "kinds", "[I") 25 := ⟨17, by decide +kernel, rfl, Or.inl wm_742⟩
theorem d_X10_init_25 : pm_i e_X10_init 25 .aload_n .aload 0 26 := Or.inl ⟨0, by decide +kernel, rfl, rfl⟩
theorem d_X10_init_26 : pm_P e_X10_init 26 10 28 := Or.inr <| Or.inl ⟨10, by decide +kernel, by decide +kernel, rfl⟩
theorem d_X10_init_28 : pm_D e_X10_init 28 2 (.newarray .int) 30 := ⟨by decide +kernel, rfl⟩
theorem d_X10_init_30 : pm_F e_X10_init 30 .putfield (RX10, "sticks", "[I") 33 := ⟨20, by decide +kernel, rfl, Or.inl wm_743⟩
theorem d_X10_init_33 : pm_i e_X10_init 33 .aload_n .aload 0 34 := Or.inl ⟨0, by decide +kernel, rfl, rfl⟩
theorem d_X10_init_34 : pm_P e_X10_init 34 10 36 := Or.inr <| Or.inl ⟨10, by decide +kernel, by decide +kernel, rfl⟩
theorem d_X10_init_36 : pm_D e_X10_init 36 2 (.newarray .int) 38 := ⟨by decide +kernel, rfl⟩
theorem d_X10_init_38 : pm_F e_X10_init 38 .putfield (RX10, "counts", "[I") 41 := ⟨23, by decide +kernel, rfl, Or.inl wm_744⟩
theorem d_X10_init_41 : pm_i e_X10_init 41 .aload_n .aload 0 42 := Or.inl ⟨0, by decide +kernel, rfl, rfl⟩
theorem d_X10_init_42 : pm_P e_X10_init 42 10 44 := Or.inr <| Or.inl ⟨10, by decide +kernel, by decide +kernel, rfl⟩
theorem d_X10_init_44 : pm_D e_X10_init 44 2 (.newarray .boolean) 46 := ⟨by decide +kernel, rfl⟩
theorem d_X10_init_46 : pm_F e_X10_init 46 .putfield (RX10, "hasFinger", "[Z") 49 := ⟨26, by decide +kernel, rfl, Or.inl wm_745⟩
theorem d_X10_init_49 : pm_i e_X10_init 49 .aload_n .aload 0 50 := Or.inl ⟨0, by decide +kernel, rfl, rfl⟩
theorem d_X10_init_50 : pm_P e_X10_init 50 10 52 := Or.inr <| Or.inl ⟨10, by decide +kernel, by decide +kernel, rfl⟩
theorem d_X10_init_52 : pm_D e_X10_init 52 2 (.newarray .int) 54 := ⟨by decide +kernel, rfl⟩
theorem d_X10_init_54 : pm_F e_X10_init 54 .putfield (RX10, "lows", "[I") 57 := ⟨30, by decide +kernel, rfl, Or.inl wm_746⟩
theorem d_X10_init_57 : pm_i e_X10_init 57 .aload_n .aload 0 58 := Or.inl ⟨0, by decide +kernel, rfl, rfl⟩
theorem d_X10_init_58 : pm_P e_X10_init 58 10 60 := Or.inr <| Or.inl ⟨10, by decide +kernel, by decide +kernel, rfl⟩
theorem d_X10_init_60 : pm_D e_X10_init 60 2 (.newarray .int) 62 := ⟨by decide +kernel, rfl⟩
theorem d_X10_init_62 : pm_F e_X10_init 62 .putfield (RX10, "highs", "[I") 65 := ⟨33, by decide +kernel, rfl, Or.inl wm_747⟩
theorem d_X10_init_65 : pm_i e_X10_init 65 .aload_n .aload 0 66 := Or.inl ⟨0, by decide +kernel, rfl, rfl⟩
theorem d_X10_init_66 : pm_P e_X10_init 66 61 68 := Or.inr <| Or.inl ⟨61, by decide +kernel, by decide +kernel, rfl⟩
theorem d_X10_init_68 : pm_D e_X10_init 68 2 (.newarray .long) 70 := ⟨by decide +kernel, rfl⟩
theorem d_X10_init_70 : pm_F e_X10_init 70 .putfield (RX10, "ups", "[J") 73 := ⟨36, by decide +kernel, rfl, Or.inl wm_748⟩
theorem d_X10_init_73 : pm_i e_X10_init 73 .aload_n .aload 0 74 := Or.inl ⟨0, by decide +kernel, rfl, rfl⟩
theorem d_X10_init_74 : pm_P e_X10_init 74 61 76 := Or.inr <| Or.inl ⟨61, by decide +kernel, by decide +kernel, rfl⟩
theorem d_X10_init_76 : pm_D e_X10_init 76 2 (.newarray .long) 78 := ⟨by decide +kernel, rfl⟩
theorem d_X10_init_78 : pm_F e_X10_init 78 .putfield (RX10, "lowers", "[J") 81 := ⟨40, by decide +kernel, rfl, Or.inl wm_749⟩
theorem d_X10_init_81 : pm_i e_X10_init 81 .aload_n .aload 0 82 := Or.inl ⟨0, by decide +kernel, rfl, rfl⟩
theorem d_X10_init_82 : pm_P e_X10_init 82 61 84 := Or.inr <| Or.inl ⟨61, by decide +kernel, by decide +kernel, rfl⟩
theorem d_X10_init_84 : pm_D e_X10_init 84 2 (.newarray .long) 86 := ⟨by decide +kernel, rfl⟩
theorem d_X10_init_86 : pm_F e_X10_init 86 .putfield (RX10, "nextUps", "[J") 89 := ⟨43, by decide +kernel, rfl, Or.inl wm_750⟩
theorem d_X10_init_89 : pm_i e_X10_init 89 .aload_n .aload 0 90 := Or.inl ⟨0, by decide +kernel, rfl, rfl⟩
theorem d_X10_init_90 : pm_P e_X10_init 90 61 92 := Or.inr <| Or.inl ⟨61, by decide +kernel, by decide +kernel, rfl⟩
theorem d_X10_init_92 : pm_D e_X10_init 92 2 (.newarray .long) 94 := ⟨by decide +kernel, rfl⟩
theorem d_X10_init_94 : pm_F e_X10_init 94 .putfield (RX10, "nextLowers", "[J") 97 := ⟨46, by decide +kernel, rfl, Or.inl wm_751⟩
theorem d_X10_init_97 : pm_i e_X10_init 97 .aload_n .aload 0 98 := Or.inl ⟨0, by decide +kernel, rfl, rfl⟩
theorem d_X10_init_98 : pm_P e_X10_init 98 31 100 := Or.inr <| Or.inl ⟨31, by decide +kernel, by decide +kernel, rfl⟩
theorem d_X10_init_100 : pm_D e_X10_init 100 2 (.newarray .long) 102 := ⟨by decide +kernel, rfl⟩
theorem d_X10_init_102 : pm_F e_X10_init 102 .putfield (RX10, "oddsUp", "[J") 105 := ⟨49, by decide +kernel, rfl, Or.inl wm_752⟩
theorem d_X10_init_105 : pm_i e_X10_init 105 .aload_n .aload 0 106 := Or.inl ⟨0, by decide +kernel, rfl, rfl⟩
theorem d_X10_init_106 : pm_P e_X10_init 106 31 108 := Or.inr <| Or.inl ⟨31, by decide +kernel, by decide +kernel, rfl⟩
theorem d_X10_init_108 : pm_D e_X10_init 108 2 (.newarray .long) 110 := ⟨by decide +kernel, rfl⟩
theorem d_X10_init_110 : pm_F e_X10_init 110 .putfield (RX10, "oddsLow", "[J") 113 := ⟨52, by decide +kernel, rfl, Or.inl wm_753⟩
theorem d_X10_init_113 : pm_i e_X10_init 113 .aload_n .aload 0 114 := Or.inl ⟨0, by decide +kernel, rfl, rfl⟩
theorem d_X10_init_114 : pm_P e_X10_init 114 48 116 := Or.inr <| Or.inl ⟨48, by decide +kernel, by decide +kernel, rfl⟩
theorem d_X10_init_116 : pm_D e_X10_init 116 2 (.newarray .int) 118 := ⟨by decide +kernel, rfl⟩
theorem d_X10_init_118 : pm_F e_X10_init 118 .putfield (RX10, "figures", "[I") 121 := ⟨55, by decide +kernel, rfl, Or.inl wm_757⟩
theorem d_X10_init_121 : pm_i e_X10_init 121 .aload_n .aload 0 122 := Or.inl ⟨0, by decide +kernel, rfl, rfl⟩
theorem d_X10_init_122 : pm_P e_X10_init 122 6 124 := Or.inr <| Or.inl ⟨6, by decide +kernel, by decide +kernel, rfl⟩
theorem d_X10_init_124 : pm_D e_X10_init 124 2 (.newarray .int) 126 := ⟨by decide +kernel, rfl⟩
theorem d_X10_init_126 : pm_F e_X10_init 126 .putfield (RX10, "six", "[I") 129 := ⟨58, by decide +kernel, rfl, Or.inl wm_758⟩
theorem d_X10_init_129 : pm_i e_X10_init 129 .aload_n .aload 0 130 := Or.inl ⟨0, by decide +kernel, rfl, rfl⟩
theorem d_X10_init_130 : pm_P e_X10_init 130 64 132 := Or.inr <| Or.inl ⟨64, by decide +kernel, by decide +kernel, rfl⟩
theorem d_X10_init_132 : pm_D e_X10_init 132 2 (.newarray .int) 134 := ⟨by decide +kernel, rfl⟩
theorem d_X10_init_134 : pm_F e_X10_init 134 .putfield (RX10, "far", "[I") 137 := ⟨61, by decide +kernel, rfl, Or.inl wm_759⟩
theorem d_X10_init_137 : pm_i e_X10_init 137 .aload_n .aload 0 138 := Or.inl ⟨0, by decide +kernel, rfl, rfl⟩
theorem d_X10_init_138 : pm_P e_X10_init 138 (-9) 140 := Or.inr <| Or.inl ⟨-9, by decide +kernel, by decide +kernel, rfl⟩
theorem d_X10_init_140 : pm_F e_X10_init 140 .putfield (RX10, "steps", "I") 143 := ⟨64, by decide +kernel, rfl, Or.inl wm_760⟩
theorem d_X10_init_143 : pm_i e_X10_init 143 .aload_n .aload 0 144 := Or.inl ⟨0, by decide +kernel, rfl, rfl⟩
theorem d_X10_init_144 : pm_P e_X10_init 144 64 146 := Or.inr <| Or.inl ⟨64, by decide +kernel, by decide +kernel, rfl⟩
theorem d_X10_init_146 : pm_D e_X10_init 146 2 (.newarray .int) 148 := ⟨by decide +kernel, rfl⟩
theorem d_X10_init_148 : pm_F e_X10_init 148 .putfield (RX10, "stepRow", "[I") 151 := ⟨68, by decide +kernel, rfl, Or.inl wm_761⟩
theorem d_X10_init_151 : pm_i e_X10_init 151 .aload_n .aload 0 152 := Or.inl ⟨0, by decide +kernel, rfl, rfl⟩
theorem d_X10_init_152 : pm_P e_X10_init 152 4 153 := Or.inl ⟨4, by decide +kernel, by decide +kernel, rfl⟩
theorem d_X10_init_153 : pm_D e_X10_init 153 2 (.newarray .int) 155 := ⟨by decide +kernel, rfl⟩
theorem d_X10_init_155 : pm_F e_X10_init 155 .putfield (RX10, "sizes", "[I") 158 := ⟨71, by decide +kernel, rfl, Or.inl wm_762⟩
theorem d_X10_init_158 : pm_i e_X10_init 158 .aload_n .aload 0 159 := Or.inl ⟨0, by decide +kernel, rfl, rfl⟩
theorem d_X10_init_159 : pm_P e_X10_init 159 256 162 := Or.inr <| Or.inr <| Or.inl ⟨256, by decide +kernel, by decide +kernel, rfl⟩
theorem d_X10_init_162 : pm_D e_X10_init 162 2 (.newarray .int) 164 := ⟨by decide +kernel, rfl⟩
theorem d_X10_init_164 : pm_F e_X10_init 164 .putfield (RX10, "rows", "[I") 167 := ⟨74, by decide +kernel, rfl, Or.inl wm_763⟩
theorem d_X10_init_167 : pm_i e_X10_init 167 .aload_n .aload 0 168 := Or.inl ⟨0, by decide +kernel, rfl, rfl⟩
theorem d_X10_init_168 : pm_P e_X10_init 168 64 170 := Or.inr <| Or.inl ⟨64, by decide +kernel, by decide +kernel, rfl⟩
theorem d_X10_init_170 : pm_D e_X10_init 170 2 (.newarray .int) 172 := ⟨by decide +kernel, rfl⟩
theorem d_X10_init_172 : pm_F e_X10_init 172 .putfield (RX10, "moving", "[I") 175 := ⟨77, by decide +kernel, rfl, Or.inl wm_764⟩
theorem d_X10_init_175 : pm_i e_X10_init 175 .aload_n .aload 0 176 := Or.inl ⟨0, by decide +kernel, rfl, rfl⟩
theorem d_X10_init_176 : pm_P e_X10_init 176 31 178 := Or.inr <| Or.inl ⟨31, by decide +kernel, by decide +kernel, rfl⟩
theorem d_X10_init_178 : pm_D e_X10_init 178 2 (.newarray .int) 180 := ⟨by decide +kernel, rfl⟩
theorem d_X10_init_180 : pm_F e_X10_init 180 .putfield (RX10, "times", "[I") 183 := ⟨80, by decide +kernel, rfl, Or.inl wm_765⟩
theorem d_X10_init_183 : pm_i e_X10_init 183 .aload_n .aload 0 184 := Or.inl ⟨0, by decide +kernel, rfl, rfl⟩
theorem d_X10_init_184 : pm_P e_X10_init 184 31 186 := Or.inr <| Or.inl ⟨31, by decide +kernel, by decide +kernel, rfl⟩
theorem d_X10_init_186 : pm_D e_X10_init 186 2 (.newarray .int) 188 := ⟨by decide +kernel, rfl⟩
theorem d_X10_init_188 : pm_F e_X10_init 188 .putfield (RX10, "shares", "[I") 191 := ⟨83, by decide +kernel, rfl, Or.inl wm_767⟩
theorem d_X10_init_191 : pm_i e_X10_init 191 .aload_n .aload 0 192 := Or.inl ⟨0, by decide +kernel, rfl, rfl⟩
theorem d_X10_init_192 : pm_P e_X10_init 192 31 194 := Or.inr <| Or.inl ⟨31, by decide +kernel, by decide +kernel, rfl⟩
theorem d_X10_init_194 : pm_D e_X10_init 194 2 (.newarray .int) 196 := ⟨by decide +kernel, rfl⟩
theorem d_X10_init_196 : pm_F e_X10_init 196 .putfield (RX10, "held", "[I") 199 := ⟨86, by decide +kernel, rfl, Or.inl wm_768⟩
theorem d_X10_init_199 : pm_P e_X10_init 199 0 200 := Or.inl ⟨0, by decide +kernel, by decide +kernel, rfl⟩
theorem d_X10_init_200 : pm_i e_X10_init 200 .istore_n .istore 1 201 := Or.inl ⟨1, by decide +kernel, rfl, rfl⟩
theorem d_X10_init_201 : pm_i e_X10_init 201 .iload_n .iload 1 202 := Or.inl ⟨1, by decide +kernel, rfl, rfl⟩
theorem d_X10_init_202 : pm_P e_X10_init 202 4 203 := Or.inl ⟨4, by decide +kernel, by decide +kernel, rfl⟩
theorem d_X10_init_203 : pm_B e_X10_init 203 (fun z => .if_icmp .ge z) 220 206 := ⟨17, by decide +kernel, by decide, rfl⟩
theorem d_X10_init_206 : pm_i e_X10_init 206 .aload_n .aload 0 207 := Or.inl ⟨0, by decide +kernel, rfl, rfl⟩
theorem d_X10_init_207 : pm_F e_X10_init 207 .getfield (RX10, "sizes", "[I") 210 := ⟨71, by decide +kernel, rfl, Or.inl wm_762⟩
theorem d_X10_init_210 : pm_i e_X10_init 210 .iload_n .iload 1 211 := Or.inl ⟨1, by decide +kernel, rfl, rfl⟩
theorem d_X10_init_211 : pm_P e_X10_init 211 (-9) 213 := Or.inr <| Or.inl ⟨-9, by decide +kernel, by decide +kernel, rfl⟩
theorem d_X10_init_213 : pm_D e_X10_init 213 1 (.iastore) 214 := ⟨by decide +kernel, rfl⟩
theorem d_X10_init_214 : pm_I e_X10_init 214 1 1 217 := ⟨1, by decide +kernel, by decide +kernel, rfl⟩
theorem d_X10_init_217 : pm_B e_X10_init 217 (fun z => .goto z) 201 220 := ⟨-16, by decide +kernel, by decide, rfl⟩
theorem d_X10_init_220 : pm_P e_X10_init 220 0 221 := Or.inl ⟨0, by decide +kernel, by decide +kernel, rfl⟩
theorem d_X10_init_221 : pm_i e_X10_init 221 .istore_n .istore 1 222 := Or.inl ⟨1, by decide +kernel, rfl, rfl⟩
theorem d_X10_init_222 : pm_i e_X10_init 222 .iload_n .iload 1 223 := Or.inl ⟨1, by decide +kernel, rfl, rfl⟩
theorem d_X10_init_223 : pm_P e_X10_init 223 48 225 := Or.inr <| Or.inl ⟨48, by decide +kernel, by decide +kernel, rfl⟩
theorem d_X10_init_225 : pm_B e_X10_init 225 (fun z => .if_icmp .ge z) 242 228 := ⟨17, by decide +kernel, by decide, rfl⟩
theorem d_X10_init_228 : pm_i e_X10_init 228 .aload_n .aload 0 229 := Or.inl ⟨0, by decide +kernel, rfl, rfl⟩
theorem d_X10_init_229 : pm_F e_X10_init 229 .getfield (RX10, "figures", "[I") 232 := ⟨55, by decide +kernel, rfl, Or.inl wm_757⟩
theorem d_X10_init_232 : pm_i e_X10_init 232 .iload_n .iload 1 233 := Or.inl ⟨1, by decide +kernel, rfl, rfl⟩
theorem d_X10_init_233 : pm_P e_X10_init 233 8 235 := Or.inr <| Or.inl ⟨8, by decide +kernel, by decide +kernel, rfl⟩
theorem d_X10_init_235 : pm_D e_X10_init 235 1 (.iastore) 236 := ⟨by decide +kernel, rfl⟩
theorem d_X10_init_236 : pm_I e_X10_init 236 1 1 239 := ⟨1, by decide +kernel, by decide +kernel, rfl⟩
theorem d_X10_init_239 : pm_B e_X10_init 239 (fun z => .goto z) 222 242 := ⟨-17, by decide +kernel, by decide, rfl⟩
theorem d_X10_init_242 : pm_D e_X10_init 242 1 (.return_) 243 := ⟨by decide +kernel, rfl⟩
theorem d_X10_in_0 : pm_i e_X10_in 0 .iload_n .iload 0 1 := Or.inl ⟨0, by decide +kernel, rfl, rfl⟩
theorem d_X10_in_1 : pm_i e_X10_in 1 .iload_n .iload 1 2 := Or.inl ⟨1, by decide +kernel, rfl, rfl⟩
theorem d_X10_in_2 : pm_B e_X10_in 2 (fun z => .if_icmp .lt z) 14 5 := ⟨12, by decide +kernel, by decide, rfl⟩
theorem d_X10_in_5 : pm_i e_X10_in 5 .iload_n .iload 0 6 := Or.inl ⟨0, by decide +kernel, rfl, rfl⟩
theorem d_X10_in_6 : pm_i e_X10_in 6 .iload_n .iload 2 7 := Or.inl ⟨2, by decide +kernel, rfl, rfl⟩
theorem d_X10_in_7 : pm_B e_X10_in 7 (fun z => .if_icmp .gt z) 14 10 := ⟨7, by decide +kernel, by decide, rfl⟩
theorem d_X10_in_10 : pm_P e_X10_in 10 1 11 := Or.inl ⟨1, by decide +kernel, by decide +kernel, rfl⟩
theorem d_X10_in_11 : pm_B e_X10_in 11 (fun z => .goto z) 15 14 := ⟨4, by decide +kernel, by decide, rfl⟩
theorem d_X10_in_14 : pm_P e_X10_in 14 0 15 := Or.inl ⟨0, by decide +kernel, by decide +kernel, rfl⟩
theorem d_X10_in_15 : pm_D e_X10_in 15 1 (.ireturn) 16 := ⟨by decide +kernel, rfl⟩
theorem d_X10_meets_0 : pm_i e_X10_meets 0 .aload_n .aload 0 1 := Or.inl ⟨0, by decide +kernel, rfl, rfl⟩
theorem d_X10_meets_1 : pm_i e_X10_meets 1 .iload_n .iload 1 2 := Or.inl ⟨1, by decide +kernel, rfl, rfl⟩
theorem d_X10_meets_2 : pm_F e_X10_meets 2 .putfield (RX10, "finding", "I") 5 := ⟨89, by decide +kernel, rfl, Or.inl wm_736⟩
theorem d_X10_meets_5 : pm_i e_X10_meets 5 .aload_n .aload 0 6 := Or.inl ⟨0, by decide +kernel, rfl, rfl⟩
theorem d_X10_meets_6 : pm_F e_X10_meets 6 .getfield (RX10, "findings", "[I") 9 := ⟨7, by decide +kernel, rfl, Or.inl wm_737⟩
theorem d_X10_meets_9 : pm_i e_X10_meets 9 .iload_n .iload 1 10 := Or.inl ⟨1, by decide +kernel, rfl, rfl⟩
theorem d_X10_meets_10 : pm_D e_X10_meets 10 1 (.dup2) 11 := ⟨by decide +kernel, rfl⟩
theorem d_X10_meets_11 : pm_D e_X10_meets 11 1 (.iaload) 12 := ⟨by decide +kernel, rfl⟩
theorem d_X10_meets_12 : pm_P e_X10_meets 12 1 13 := Or.inl ⟨1, by decide +kernel, by decide +kernel, rfl⟩
theorem d_X10_meets_13 : pm_D e_X10_meets 13 1 (.iadd) 14 := ⟨by decide +kernel, rfl⟩
theorem d_X10_meets_14 : pm_D e_X10_meets 14 1 (.iastore) 15 := ⟨by decide +kernel, rfl⟩
theorem d_X10_meets_15 : pm_P e_X10_meets 15 (-3) 17 := Or.inr <| Or.inl ⟨-3, by decide +kernel, by decide +kernel, rfl⟩
theorem d_X10_meets_17 : pm_D e_X10_meets 17 1 (.ireturn) 18 := ⟨by decide +kernel, rfl⟩
theorem d_X10_divisor_0 : pm_i e_X10_divisor 0 .lload_n .lload 0 1 := Or.inl ⟨0, by decide +kernel, rfl, rfl⟩
theorem d_X10_divisor_1 : pm_i e_X10_divisor 1 .lstore_n .lstore 4 3 := Or.inr ⟨by decide +kernel, rfl⟩
theorem d_X10_divisor_3 : pm_i e_X10_divisor 3 .lload_n .lload 2 4 := Or.inl ⟨2, by decide +kernel, rfl, rfl⟩
theorem d_X10_divisor_4 : pm_i e_X10_divisor 4 .lstore_n .lstore 6 6 := Or.inr ⟨by decide +kernel, rfl⟩
theorem d_X10_divisor_6 : pm_i e_X10_divisor 6 .lload_n .lload 6 8 := Or.inr ⟨by decide +kernel, rfl⟩
theorem d_X10_divisor_8 : pm_PL e_X10_divisor 8 0 9 := Or.inl ⟨0, by decide +kernel, by decide +kernel, rfl⟩
theorem d_X10_divisor_9 : pm_D e_X10_divisor 9 1 (.lcmp) 10 := ⟨by decide +kernel, rfl⟩
theorem d_X10_divisor_10 : pm_B e_X10_divisor 10 (fun z => .ifCond .eq z) 31 13 := ⟨21, by decide +kernel, by decide, rfl⟩
theorem d_X10_divisor_13 : pm_i e_X10_divisor 13 .lload_n .lload 4 15 := Or.inr ⟨by decide +kernel, rfl⟩
theorem d_X10_divisor_15 : pm_i e_X10_divisor 15 .lload_n .lload 6 17 := Or.inr ⟨by decide +kernel, rfl⟩
theorem d_X10_divisor_17 : pm_D e_X10_divisor 17 1 (.lrem) 18 := ⟨by decide +kernel, rfl⟩
theorem d_X10_divisor_18 : pm_i e_X10_divisor 18 .lstore_n .lstore 8 20 := Or.inr ⟨by decide +kernel, rfl⟩
theorem d_X10_divisor_20 : pm_i e_X10_divisor 20 .lload_n .lload 6 22 := Or.inr ⟨by decide +kernel, rfl⟩
theorem d_X10_divisor_22 : pm_i e_X10_divisor 22 .lstore_n .lstore 4 24 := Or.inr ⟨by decide +kernel, rfl⟩
theorem d_X10_divisor_24 : pm_i e_X10_divisor 24 .lload_n .lload 8 26 := Or.inr ⟨by decide +kernel, rfl⟩
theorem d_X10_divisor_26 : pm_i e_X10_divisor 26 .lstore_n .lstore 6 28 := Or.inr ⟨by decide +kernel, rfl⟩
theorem d_X10_divisor_28 : pm_B e_X10_divisor 28 (fun z => .goto z) 6 31 := ⟨-22, by decide +kernel, by decide, rfl⟩
theorem d_X10_divisor_31 : pm_i e_X10_divisor 31 .lload_n .lload 4 33 := Or.inr ⟨by decide +kernel, rfl⟩
theorem d_X10_divisor_33 : pm_D e_X10_divisor 33 1 (.lreturn) 34 := ⟨by decide +kernel, rfl⟩
theorem d_X10_tell_0 : pm_i e_X10_tell 0 .lload_n .lload 1 1 := Or.inl ⟨1, by decide +kernel, rfl, rfl⟩
theorem d_X10_tell_1 : pm_i e_X10_tell 1 .lload_n .lload 3 2 := Or.inl ⟨3, by decide +kernel, rfl, rfl⟩
theorem d_X10_tell_2 : pm_kS e_X10_tell 2 e_X10_divisor 2 5 := ⟨92, by decide +kernel, rfl, fit_X10_tell_X10_divisor, wm_925, Or.inl wm_924⟩
theorem d_X10_tell_5 : pm_i e_X10_tell 5 .lstore_n .lstore 5 7 := Or.inr ⟨by decide +kernel, rfl⟩
theorem d_X10_tell_7 : pm_i e_X10_tell 7 .aload_n .aload 0 8 := Or.inl ⟨0, by decide +kernel, rfl, rfl⟩
theorem d_X10_tell_8 : pm_i e_X10_tell 8 .lload_n .lload 1 9 := Or.inl ⟨1, by decide +kernel, rfl, rfl⟩
theorem d_X10_tell_9 : pm_i e_X10_tell 9 .lload_n .lload 5 11 := Or.inr ⟨by decide +kernel, rfl⟩
theorem d_X10_tell_11 : pm_D e_X10_tell 11 1 (.ldiv) 12 := ⟨by decide +kernel, rfl⟩
theorem d_X10_tell_12 : pm_F e_X10_tell 12 .putfield (RX10, "upper", "J") 15 := ⟨96, by decide +kernel, rfl, Or.inl wm_739⟩
theorem d_X10_tell_15 : pm_i e_X10_tell 15 .aload_n .aload 0 16 := Or.inl ⟨0, by decide +kernel, rfl, rfl⟩
theorem d_X10_tell_16 : pm_i e_X10_tell 16 .lload_n .lload 3 17 := Or.inl ⟨3, by decide +kernel, rfl, rfl⟩
theorem d_X10_tell_17 : pm_i e_X10_tell 17 .lload_n .lload 5 19 := Or.inr ⟨by decide +kernel, rfl⟩
theorem d_X10_tell_19 : pm_D e_X10_tell 19 1 (.ldiv) 20 := ⟨by decide +kernel, rfl⟩
theorem d_X10_tell_20 : pm_F e_X10_tell 20 .putfield (RX10, "lower", "J") 23 := ⟨13, by decide +kernel, rfl, Or.inl wm_740⟩
theorem d_X10_tell_23 : pm_P e_X10_tell 23 1 24 := Or.inl ⟨1, by decide +kernel, by decide +kernel, rfl⟩
theorem d_X10_tell_24 : pm_D e_X10_tell 24 1 (.ireturn) 25 := ⟨by decide +kernel, rfl⟩
theorem d_X10_put_0 : pm_i e_X10_put 0 .aload_n .aload 0 1 := Or.inl ⟨0, by decide +kernel, rfl, rfl⟩
theorem d_X10_put_1 : pm_F e_X10_put 1 .getfield (RX10, "casters", "I") 4 := ⟨99, by decide +kernel, rfl, Or.inl wm_741⟩
theorem d_X10_put_4 : pm_P e_X10_put 4 10 6 := Or.inr <| Or.inl ⟨10, by decide +kernel, by decide +kernel, rfl⟩
theorem d_X10_put_6 : pm_B e_X10_put 6 (fun z => .if_icmp .ne z) 12 9 := ⟨6, by decide +kernel, by decide, rfl⟩
theorem d_X10_put_9 : pm_P e_X10_put 9 (-2) 11 := Or.inr <| Or.inl ⟨-2, by decide +kernel, by decide +kernel, rfl⟩
theorem d_X10_put_11 : pm_D e_X10_put 11 1 (.ireturn) 12 := ⟨by decide +kernel, rfl⟩
theorem d_X10_put_12 : pm_i e_X10_put 12 .aload_n .aload 0 13 := Or.inl ⟨0, by decide +kernel, rfl, rfl⟩
theorem d_X10_put_13 : pm_F e_X10_put 13 .getfield (RX10, "kinds", "[I") 16 := ⟨17, by decide +kernel, rfl, Or.inl wm_742⟩
theorem d_X10_put_16 : pm_i e_X10_put 16 .aload_n .aload 0 17 := Or.inl ⟨0, by decide +kernel, rfl, rfl⟩
theorem d_X10_put_17 : pm_F e_X10_put 17 .getfield (RX10, "casters", "I") 20 := ⟨99, by decide +kernel, rfl, Or.inl wm_741⟩
theorem d_X10_put_20 : pm_i e_X10_put 20 .iload_n .iload 1 21 := Or.inl ⟨1, by decide +kernel, rfl, rfl⟩
theorem d_X10_put_21 : pm_D e_X10_put 21 1 (.iastore) 22 := ⟨by decide +kernel, rfl⟩
theorem d_X10_put_22 : pm_i e_X10_put 22 .aload_n .aload 0 23 := Or.inl ⟨0, by decide +kernel, rfl, rfl⟩
theorem d_X10_put_23 : pm_F e_X10_put 23 .getfield (RX10, "sticks", "[I") 26 := ⟨20, by decide +kernel, rfl, Or.inl wm_743⟩
theorem d_X10_put_26 : pm_i e_X10_put 26 .aload_n .aload 0 27 := Or.inl ⟨0, by decide +kernel, rfl, rfl⟩
theorem d_X10_put_27 : pm_F e_X10_put 27 .getfield (RX10, "casters", "I") 30 := ⟨99, by decide +kernel, rfl, Or.inl wm_741⟩
theorem d_X10_put_30 : pm_i e_X10_put 30 .iload_n .iload 2 31 := Or.inl ⟨2, by decide +kernel, rfl, rfl⟩
theorem d_X10_put_31 : pm_D e_X10_put 31 1 (.iastore) 32 := ⟨by decide +kernel, rfl⟩
theorem d_X10_put_32 : pm_i e_X10_put 32 .aload_n .aload 0 33 := Or.inl ⟨0, by decide +kernel, rfl, rfl⟩
theorem d_X10_put_33 : pm_F e_X10_put 33 .getfield (RX10, "counts", "[I") 36 := ⟨23, by decide +kernel, rfl, Or.inl wm_744⟩
theorem d_X10_put_36 : pm_i e_X10_put 36 .aload_n .aload 0 37 := Or.inl ⟨0, by decide +kernel, rfl, rfl⟩
theorem d_X10_put_37 : pm_F e_X10_put 37 .getfield (RX10, "casters", "I") 40 := ⟨99, by decide +kernel, rfl, Or.inl wm_741⟩
theorem d_X10_put_40 : pm_i e_X10_put 40 .iload_n .iload 3 41 := Or.inl ⟨3, by decide +kernel, rfl, rfl⟩
theorem d_X10_put_41 : pm_D e_X10_put 41 1 (.iastore) 42 := ⟨by decide +kernel, rfl⟩
theorem d_X10_put_42 : pm_i e_X10_put 42 .aload_n .aload 0 43 := Or.inl ⟨0, by decide +kernel, rfl, rfl⟩
theorem d_X10_put_43 : pm_F e_X10_put 43 .getfield (RX10, "hasFinger", "[Z") 46 := ⟨26, by decide +kernel, rfl, Or.inl wm_745⟩
theorem d_X10_put_46 : pm_i e_X10_put 46 .aload_n .aload 0 47 := Or.inl ⟨0, by decide +kernel, rfl, rfl⟩
theorem d_X10_put_47 : pm_F e_X10_put 47 .getfield (RX10, "casters", "I") 50 := ⟨99, by decide +kernel, rfl, Or.inl wm_741⟩
theorem d_X10_put_50 : pm_i e_X10_put 50 .iload_n .iload 4 52 := Or.inr ⟨by decide +kernel, rfl⟩
theorem d_X10_put_52 : pm_D e_X10_put 52 1 (.bastore) 53 := ⟨by decide +kernel, rfl⟩
theorem d_X10_put_53 : pm_i e_X10_put 53 .aload_n .aload 0 54 := Or.inl ⟨0, by decide +kernel, rfl, rfl⟩
theorem d_X10_put_54 : pm_F e_X10_put 54 .getfield (RX10, "lows", "[I") 57 := ⟨30, by decide +kernel, rfl, Or.inl wm_746⟩
theorem d_X10_put_57 : pm_i e_X10_put 57 .aload_n .aload 0 58 := Or.inl ⟨0, by decide +kernel, rfl, rfl⟩
theorem d_X10_put_58 : pm_F e_X10_put 58 .getfield (RX10, "casters", "I") 61 := ⟨99, by decide +kernel, rfl, Or.inl wm_741⟩
theorem d_X10_put_61 : pm_i e_X10_put 61 .iload_n .iload 5 63 := Or.inr ⟨by decide +kernel, rfl⟩
theorem d_X10_put_63 : pm_D e_X10_put 63 1 (.iastore) 64 := ⟨by decide +kernel, rfl⟩
theorem d_X10_put_64 : pm_i e_X10_put 64 .aload_n .aload 0 65 := Or.inl ⟨0, by decide +kernel, rfl, rfl⟩
theorem d_X10_put_65 : pm_F e_X10_put 65 .getfield (RX10, "highs", "[I") 68 := ⟨33, by decide +kernel, rfl, Or.inl wm_747⟩
theorem d_X10_put_68 : pm_i e_X10_put 68 .aload_n .aload 0 69 := Or.inl ⟨0, by decide +kernel, rfl, rfl⟩
theorem d_X10_put_69 : pm_F e_X10_put 69 .getfield (RX10, "casters", "I") 72 := ⟨99, by decide +kernel, rfl, Or.inl wm_741⟩
theorem d_X10_put_72 : pm_i e_X10_put 72 .iload_n .iload 6 74 := Or.inr ⟨by decide +kernel, rfl⟩
theorem d_X10_put_74 : pm_D e_X10_put 74 1 (.iastore) 75 := ⟨by decide +kernel, rfl⟩
theorem d_X10_put_75 : pm_i e_X10_put 75 .aload_n .aload 0 76 := Or.inl ⟨0, by decide +kernel, rfl, rfl⟩
theorem d_X10_put_76 : pm_D e_X10_put 76 1 (.dup) 77 := ⟨by decide +kernel, rfl⟩
theorem d_X10_put_77 : pm_F e_X10_put 77 .getfield (RX10, "casters", "I") 80 := ⟨99, by decide +kernel, rfl, Or.inl wm_741⟩
theorem d_X10_put_80 : pm_P e_X10_put 80 1 81 := Or.inl ⟨1, by decide +kernel, by decide +kernel, rfl⟩
theorem d_X10_put_81 : pm_D e_X10_put 81 1 (.iadd) 82 := ⟨by decide +kernel, rfl⟩
theorem d_X10_put_82 : pm_F e_X10_put 82 .putfield (RX10, "casters", "I") 85 := ⟨99, by decide +kernel, rfl, Or.inl wm_741⟩
theorem d_X10_put_85 : pm_i e_X10_put 85 .aload_n .aload 0 86 := Or.inl ⟨0, by decide +kernel, rfl, rfl⟩
theorem d_X10_put_86 : pm_F e_X10_put 86 .getfield (RX10, "casters", "I") 89 := ⟨99, by decide +kernel, rfl, Or.inl wm_741⟩
theorem d_X10_put_89 : pm_P e_X10_put 89 1 90 := Or.inl ⟨1, by decide +kernel, by decide +kernel, rfl⟩
theorem d_X10_put_90 : pm_D e_X10_put 90 1 (.isub) 91 := ⟨by decide +kernel, rfl⟩
theorem d_X10_put_91 : pm_D e_X10_put 91 1 (.ireturn) 92 := ⟨by decide +kernel, rfl⟩
theorem d_X10_caster_0 : pm_i e_X10_caster 0 .aload_n .aload 0 1 := Or.inl ⟨0, by decide +kernel, rfl, rfl⟩
theorem d_X10_caster_1 : pm_i e_X10_caster 1 .iload_n .iload 1 2 := Or.inl ⟨1, by decide +kernel, rfl, rfl⟩
theorem d_X10_caster_2 : pm_B e_X10_caster 2 (fun z => .ifCond .eq z) 9 5 := ⟨7, by decide +kernel, by decide, rfl⟩
theorem d_X10_caster_5 : pm_P e_X10_caster 5 2 6 := Or.inl ⟨2, by decide +kernel, by decide +kernel, rfl⟩
theorem d_X10_caster_6 : pm_B e_X10_caster 6 (fun z => .goto z) 10 9 := ⟨4, by decide +kernel, by decide, rfl⟩
theorem d_X10_caster_9 : pm_P e_X10_caster 9 0 10 := Or.inl ⟨0, by decide +kernel, by decide +kernel, rfl⟩
theorem d_X10_caster_10 : pm_P e_X10_caster 10 (-9) 12 := Or.inr <| Or.inl ⟨-9, by decide +kernel, by decide +kernel, rfl⟩
theorem d_X10_caster_12 : pm_P e_X10_caster 12 (-9) 14 := Or.inr <| Or.inl ⟨-9, by decide +kernel, by decide +kernel, rfl⟩
theorem d_X10_caster_14 : pm_P e_X10_caster 14 0 15 := Or.inl ⟨0, by decide +kernel, by decide +kernel, rfl⟩
theorem d_X10_caster_15 : pm_P e_X10_caster 15 1 16 := Or.inl ⟨1, by decide +kernel, by decide +kernel, rfl⟩
theorem d_X10_caster_16 : pm_P e_X10_caster 16 59 18 := Or.inr <| Or.inl ⟨59, by decide +kernel, by decide +kernel, rfl⟩
theorem d_X10_caster_18 : pm_kV e_X10_caster 18 e_X10_put RX10 6 21 := ⟨102, by decide +kernel, rfl, fit_X10_caster_X10_put, wm_843, Or.inl ⟨wm_841, wm_19⟩⟩
theorem d_X10_caster_21 : pm_D e_X10_caster 21 1 (.ireturn) 22 := ⟨by decide +kernel, rfl⟩
theorem d_X10_areStalks_0 : pm_i e_X10_areStalks 0 .iload_n .iload 0 1 := Or.inl ⟨0, by decide +kernel, rfl, rfl⟩
theorem d_X10_areStalks_1 : pm_P e_X10_areStalks 1 4 2 := Or.inl ⟨4, by decide +kernel, by decide +kernel, rfl⟩
theorem d_X10_areStalks_2 : pm_P e_X10_areStalks 2 60 4 := Or.inr <| Or.inl ⟨60, by decide +kernel, by decide +kernel, rfl⟩
theorem d_X10_areStalks_4 : pm_kS e_X10_areStalks 4 e_X10_in 3 7 := ⟨106, by decide +kernel, rfl, fit_X10_areStalks_X10_in, wm_853, Or.inl wm_852⟩
theorem d_X10_areStalks_7 : pm_B e_X10_areStalks 7 (fun z => .ifCond .eq z) 24 10 := ⟨17, by decide +kernel, by decide, rfl⟩
theorem d_X10_areStalks_10 : pm_i e_X10_areStalks 10 .iload_n .iload 1 11 := Or.inl ⟨1, by decide +kernel, rfl, rfl⟩
theorem d_X10_areStalks_11 : pm_P e_X10_areStalks 11 2 12 := Or.inl ⟨2, by decide +kernel, by decide +kernel, rfl⟩
theorem d_X10_areStalks_12 : pm_P e_X10_areStalks 12 8 14 := Or.inr <| Or.inl ⟨8, by decide +kernel, by decide +kernel, rfl⟩
theorem d_X10_areStalks_14 : pm_kS e_X10_areStalks 14 e_X10_in 3 17 := ⟨106, by decide +kernel, rfl, fit_X10_areStalks_X10_in, wm_853, Or.inl wm_852⟩
theorem d_X10_areStalks_17 : pm_B e_X10_areStalks 17 (fun z => .ifCond .eq z) 24 20 := ⟨7, by decide +kernel, by decide, rfl⟩
theorem d_X10_areStalks_20 : pm_P e_X10_areStalks 20 1 21 := Or.inl ⟨1, by decide +kernel, by decide +kernel, rfl⟩
theorem d_X10_areStalks_21 : pm_B e_X10_areStalks 21 (fun z => .goto z) 25 24 := ⟨4, by decide +kernel, by decide, rfl⟩
theorem d_X10_areStalks_24 : pm_P e_X10_areStalks 24 0 25 := Or.inl ⟨0, by decide +kernel, by decide +kernel, rfl⟩
theorem d_X10_areStalks_25 : pm_D e_X10_areStalks 25 1 (.ireturn) 26 := ⟨by decide +kernel, rfl⟩
theorem d_X10_stalks_0 : pm_i e_X10_stalks 0 .iload_n .iload 1 1 := Or.inl ⟨1, by decide +kernel, rfl, rfl⟩
theorem d_X10_stalks_1 : pm_i e_X10_stalks 1 .iload_n .iload 2 2 := Or.inl ⟨2, by decide +kernel, rfl, rfl⟩
theorem d_X10_stalks_2 : pm_kS e_X10_stalks 2 e_X10_areStalks 2 5 := ⟨110, by decide +kernel, rfl, fit_X10_stalks_X10_areStalks, wm_850, Or.inl wm_849⟩
theorem d_X10_stalks_5 : pm_B e_X10_stalks 5 (fun z => .ifCond .eq z) 22 8 := ⟨17, by decide +kernel, by decide, rfl⟩
theorem d_X10_stalks_8 : pm_i e_X10_stalks 8 .aload_n .aload 0 9 := Or.inl ⟨0, by decide +kernel, rfl, rfl⟩
theorem d_X10_stalks_9 : pm_P e_X10_stalks 9 1 10 := Or.inl ⟨1, by decide +kernel, by decide +kernel, rfl⟩
theorem d_X10_stalks_10 : pm_i e_X10_stalks 10 .iload_n .iload 1 11 := Or.inl ⟨1, by decide +kernel, rfl, rfl⟩
theorem d_X10_stalks_11 : pm_i e_X10_stalks 11 .iload_n .iload 2 12 := Or.inl ⟨2, by decide +kernel, rfl, rfl⟩
theorem d_X10_stalks_12 : pm_i e_X10_stalks 12 .iload_n .iload 3 13 := Or.inl ⟨3, by decide +kernel, rfl, rfl⟩
theorem d_X10_stalks_13 : pm_P e_X10_stalks 13 1 14 := Or.inl ⟨1, by decide +kernel, by decide +kernel, rfl⟩
theorem d_X10_stalks_14 : pm_P e_X10_stalks 14 59 16 := Or.inr <| Or.inl ⟨59, by decide +kernel, by decide +kernel, rfl⟩
theorem d_X10_stalks_16 : pm_kV e_X10_stalks 16 e_X10_put RX10 6 19 := ⟨102, by decide +kernel, rfl, fit_X10_stalks_X10_put, wm_843, Or.inl ⟨wm_841, wm_19⟩⟩
theorem d_X10_stalks_19 : pm_B e_X10_stalks 19 (fun z => .goto z) 23 22 := ⟨4, by decide +kernel, by decide, rfl⟩
theorem d_X10_stalks_22 : pm_P e_X10_stalks 22 (-1) 23 := Or.inl ⟨-1, by decide +kernel, by decide +kernel, rfl⟩
theorem d_X10_stalks_23 : pm_D e_X10_stalks 23 1 (.ireturn) 24 := ⟨by decide +kernel, rfl⟩
theorem d_X10_thumb_0 : pm_i e_X10_thumb 0 .iload_n .iload 1 1 := Or.inl ⟨1, by decide +kernel, rfl, rfl⟩
theorem d_X10_thumb_1 : pm_i e_X10_thumb 1 .iload_n .iload 2 2 := Or.inl ⟨2, by decide +kernel, rfl, rfl⟩
theorem d_X10_thumb_2 : pm_kS e_X10_thumb 2 e_X10_areStalks 2 5 := ⟨110, by decide +kernel, rfl, fit_X10_thumb_X10_areStalks, wm_850, Or.inl wm_849⟩
theorem d_X10_thumb_5 : pm_B e_X10_thumb 5 (fun z => .ifCond .eq z) 46 8 := ⟨41, by decide +kernel, by decide, rfl⟩
theorem d_X10_thumb_8 : pm_i e_X10_thumb 8 .iload_n .iload 4 10 := Or.inr ⟨by decide +kernel, rfl⟩
theorem d_X10_thumb_10 : pm_P e_X10_thumb 10 1 11 := Or.inl ⟨1, by decide +kernel, by decide +kernel, rfl⟩
theorem d_X10_thumb_11 : pm_P e_X10_thumb 11 59 13 := Or.inr <| Or.inl ⟨59, by decide +kernel, by decide +kernel, rfl⟩
theorem d_X10_thumb_13 : pm_kS e_X10_thumb 13 e_X10_in 3 16 := ⟨106, by decide +kernel, rfl, fit_X10_thumb_X10_in, wm_853, Or.inl wm_852⟩
theorem d_X10_thumb_16 : pm_B e_X10_thumb 16 (fun z => .ifCond .eq z) 46 19 := ⟨30, by decide +kernel, by decide, rfl⟩
theorem d_X10_thumb_19 : pm_i e_X10_thumb 19 .iload_n .iload 5 21 := Or.inr ⟨by decide +kernel, rfl⟩
theorem d_X10_thumb_21 : pm_i e_X10_thumb 21 .iload_n .iload 4 23 := Or.inr ⟨by decide +kernel, rfl⟩
theorem d_X10_thumb_23 : pm_P e_X10_thumb 23 59 25 := Or.inr <| Or.inl ⟨59, by decide +kernel, by decide +kernel, rfl⟩
theorem d_X10_thumb_25 : pm_kS e_X10_thumb 25 e_X10_in 3 28 := ⟨106, by decide +kernel, rfl, fit_X10_thumb_X10_in, wm_853, Or.inl wm_852⟩
theorem d_X10_thumb_28 : pm_B e_X10_thumb 28 (fun z => .ifCond .eq z) 46 31 := ⟨18, by decide +kernel, by decide, rfl⟩
theorem d_X10_thumb_31 : pm_i e_X10_thumb 31 .aload_n .aload 0 32 := Or.inl ⟨0, by decide +kernel, rfl, rfl⟩
theorem d_X10_thumb_32 : pm_P e_X10_thumb 32 3 33 := Or.inl ⟨3, by decide +kernel, by decide +kernel, rfl⟩
theorem d_X10_thumb_33 : pm_i e_X10_thumb 33 .iload_n .iload 1 34 := Or.inl ⟨1, by decide +kernel, rfl, rfl⟩
theorem d_X10_thumb_34 : pm_i e_X10_thumb 34 .iload_n .iload 2 35 := Or.inl ⟨2, by decide +kernel, rfl, rfl⟩
theorem d_X10_thumb_35 : pm_i e_X10_thumb 35 .iload_n .iload 3 36 := Or.inl ⟨3, by decide +kernel, rfl, rfl⟩
theorem d_X10_thumb_36 : pm_i e_X10_thumb 36 .iload_n .iload 4 38 := Or.inr ⟨by decide +kernel, rfl⟩
theorem d_X10_thumb_38 : pm_i e_X10_thumb 38 .iload_n .iload 5 40 := Or.inr ⟨by decide +kernel, rfl⟩
theorem d_X10_thumb_40 : pm_kV e_X10_thumb 40 e_X10_put RX10 6 43 := ⟨102, by decide +kernel, rfl, fit_X10_thumb_X10_put, wm_843, Or.inl ⟨wm_841, wm_19⟩⟩
theorem d_X10_thumb_43 : pm_B e_X10_thumb 43 (fun z => .goto z) 47 46 := ⟨4, by decide +kernel, by decide, rfl⟩
theorem d_X10_thumb_46 : pm_P e_X10_thumb 46 (-1) 47 := Or.inl ⟨-1, by decide +kernel, by decide +kernel, rfl⟩
theorem d_X10_thumb_47 : pm_D e_X10_thumb 47 1 (.ireturn) 48 := ⟨by decide +kernel, rfl⟩
theorem d_X10_isCaster_0 : pm_i e_X10_isCaster 0 .iload_n .iload 1 1 := Or.inl ⟨1, by decide +kernel, rfl, rfl⟩
theorem d_X10_isCaster_1 : pm_P e_X10_isCaster 1 0 2 := Or.inl ⟨0, by decide +kernel, by decide +kernel, rfl⟩
theorem d_X10_isCaster_2 : pm_i e_X10_isCaster 2 .aload_n .aload 0 3 := Or.inl ⟨0, by decide +kernel, rfl, rfl⟩
theorem d_X10_isCaster_3 : pm_F e_X10_isCaster 3 .getfield (RX10, "casters", "I") 6 := ⟨99, by decide +kernel, rfl, Or.inl wm_741⟩
theorem d_X10_isCaster_6 : pm_P e_X10_isCaster 6 1 7 := Or.inl ⟨1, by decide +kernel, by decide +kernel, rfl⟩
theorem d_X10_isCaster_7 : pm_D e_X10_isCaster 7 1 (.isub) 8 := ⟨by decide +kernel, rfl⟩
theorem d_X10_isCaster_8 : pm_kS e_X10_isCaster 8 e_X10_in 3 11 := ⟨106, by decide +kernel, rfl, fit_X10_isCaster_X10_in, wm_853, Or.inl wm_852⟩
theorem d_X10_isCaster_11 : pm_D e_X10_isCaster 11 1 (.ireturn) 12 := ⟨by decide +kernel, rfl⟩
theorem d_X10_parts_0 : pm_i e_X10_parts 0 .aload_n .aload 0 1 := Or.inl ⟨0, by decide +kernel, rfl, rfl⟩
theorem d_X10_parts_1 : pm_F e_X10_parts 1 .getfield (RX10, "kinds", "[I") 4 := ⟨17, by decide +kernel, rfl, Or.inl wm_742⟩
theorem d_X10_parts_4 : pm_i e_X10_parts 4 .iload_n .iload 1 5 := Or.inl ⟨1, by decide +kernel, rfl, rfl⟩
theorem d_X10_parts_5 : pm_D e_X10_parts 5 1 (.iaload) 6 := ⟨by decide +kernel, rfl⟩
theorem d_X10_parts_6 : pm_P e_X10_parts 6 1 7 := Or.inl ⟨1, by decide +kernel, by decide +kernel, rfl⟩
theorem d_X10_parts_7 : pm_B e_X10_parts 7 (fun z => .if_icmp .eq z) 20 10 := ⟨13, by decide +kernel, by decide, rfl⟩
theorem d_X10_parts_10 : pm_i e_X10_parts 10 .aload_n .aload 0 11 := Or.inl ⟨0, by decide +kernel, rfl, rfl⟩
theorem d_X10_parts_11 : pm_F e_X10_parts 11 .getfield (RX10, "kinds", "[I") 14 := ⟨17, by decide +kernel, rfl, Or.inl wm_742⟩
theorem d_X10_parts_14 : pm_i e_X10_parts 14 .iload_n .iload 1 15 := Or.inl ⟨1, by decide +kernel, rfl, rfl⟩
theorem d_X10_parts_15 : pm_D e_X10_parts 15 1 (.iaload) 16 := ⟨by decide +kernel, rfl⟩
theorem d_X10_parts_16 : pm_P e_X10_parts 16 3 17 := Or.inl ⟨3, by decide +kernel, by decide +kernel, rfl⟩
theorem d_X10_parts_17 : pm_B e_X10_parts 17 (fun z => .if_icmp .ne z) 24 20 := ⟨7, by decide +kernel, by decide, rfl⟩
theorem d_X10_parts_20 : pm_P e_X10_parts 20 1 21 := Or.inl ⟨1, by decide +kernel, by decide +kernel, rfl⟩
theorem d_X10_parts_21 : pm_B e_X10_parts 21 (fun z => .goto z) 25 24 := ⟨4, by decide +kernel, by decide, rfl⟩
theorem d_X10_parts_24 : pm_P e_X10_parts 24 0 25 := Or.inl ⟨0, by decide +kernel, by decide +kernel, rfl⟩
theorem d_X10_parts_25 : pm_D e_X10_parts 25 1 (.ireturn) 26 := ⟨by decide +kernel, rfl⟩
theorem d_X10_tells_0 : pm_i e_X10_tells 0 .iload_n .iload 2 1 := Or.inl ⟨2, by decide +kernel, rfl, rfl⟩
theorem d_X10_tells_1 : pm_B e_X10_tells 1 (fun z => .ifCond .ne z) 13 4 := ⟨12, by decide +kernel, by decide, rfl⟩
theorem d_X10_tells_4 : pm_i e_X10_tells 4 .aload_n .aload 0 5 := Or.inl ⟨0, by decide +kernel, rfl, rfl⟩
theorem d_X10_tells_5 : pm_F e_X10_tells 5 .getfield (RX10, "kinds", "[I") 8 := ⟨17, by decide +kernel, rfl, Or.inl wm_742⟩
theorem d_X10_tells_8 : pm_i e_X10_tells 8 .iload_n .iload 1 9 := Or.inl ⟨1, by decide +kernel, rfl, rfl⟩
theorem d_X10_tells_9 : pm_D e_X10_tells 9 1 (.iaload) 10 := ⟨by decide +kernel, rfl⟩
theorem d_X10_tells_10 : pm_B e_X10_tells 10 (fun z => .goto z) 68 13 := ⟨58, by decide +kernel, by decide, rfl⟩
theorem d_X10_tells_13 : pm_i e_X10_tells 13 .iload_n .iload 2 14 := Or.inl ⟨2, by decide +kernel, rfl, rfl⟩
theorem d_X10_tells_14 : pm_P e_X10_tells 14 1 15 := Or.inl ⟨1, by decide +kernel, by decide +kernel, rfl⟩
theorem d_X10_tells_15 : pm_B e_X10_tells 15 (fun z => .if_icmp .ne z) 27 18 := ⟨12, by decide +kernel, by decide, rfl⟩
theorem d_X10_tells_18 : pm_i e_X10_tells 18 .aload_n .aload 0 19 := Or.inl ⟨0, by decide +kernel, rfl, rfl⟩
theorem d_X10_tells_19 : pm_F e_X10_tells 19 .getfield (RX10, "sticks", "[I") 22 := ⟨20, by decide +kernel, rfl, Or.inl wm_743⟩
theorem d_X10_tells_22 : pm_i e_X10_tells 22 .iload_n .iload 1 23 := Or.inl ⟨1, by decide +kernel, rfl, rfl⟩
theorem d_X10_tells_23 : pm_D e_X10_tells 23 1 (.iaload) 24 := ⟨by decide +kernel, rfl⟩
theorem d_X10_tells_24 : pm_B e_X10_tells 24 (fun z => .goto z) 68 27 := ⟨44, by decide +kernel, by decide, rfl⟩
theorem d_X10_tells_27 : pm_i e_X10_tells 27 .iload_n .iload 2 28 := Or.inl ⟨2, by decide +kernel, rfl, rfl⟩
theorem d_X10_tells_28 : pm_P e_X10_tells 28 2 29 := Or.inl ⟨2, by decide +kernel, by decide +kernel, rfl⟩
theorem d_X10_tells_29 : pm_B e_X10_tells 29 (fun z => .if_icmp .ne z) 41 32 := ⟨12, by decide +kernel, by decide, rfl⟩
theorem d_X10_tells_32 : pm_i e_X10_tells 32 .aload_n .aload 0 33 := Or.inl ⟨0, by decide +kernel, rfl, rfl⟩
theorem d_X10_tells_33 : pm_F e_X10_tells 33 .getfield (RX10, "counts", "[I") 36 := ⟨23, by decide +kernel, rfl, Or.inl wm_744⟩
theorem d_X10_tells_36 : pm_i e_X10_tells 36 .iload_n .iload 1 37 := Or.inl ⟨1, by decide +kernel, rfl, rfl⟩
theorem d_X10_tells_37 : pm_D e_X10_tells 37 1 (.iaload) 38 := ⟨by decide +kernel, rfl⟩
theorem d_X10_tells_38 : pm_B e_X10_tells 38 (fun z => .goto z) 68 41 := ⟨30, by decide +kernel, by decide, rfl⟩
theorem d_X10_tells_41 : pm_i e_X10_tells 41 .aload_n .aload 0 42 := Or.inl ⟨0, by decide +kernel, rfl, rfl⟩
theorem d_X10_tells_42 : pm_i e_X10_tells 42 .iload_n .iload 1 43 := Or.inl ⟨1, by decide +kernel, rfl, rfl⟩
theorem d_X10_tells_43 : pm_kV e_X10_tells 43 e_X10_parts RX10 1 46 := ⟨114, by decide +kernel, rfl, fit_X10_tells_X10_parts, wm_873, Or.inl ⟨wm_871, wm_22⟩⟩
theorem d_X10_tells_46 : pm_B e_X10_tells 46 (fun z => .ifCond .ne z) 54 49 := ⟨8, by decide +kernel, by decide, rfl⟩
theorem d_X10_tells_49 : pm_P e_X10_tells 49 (-9) 51 := Or.inr <| Or.inl ⟨-9, by decide +kernel, by decide +kernel, rfl⟩
theorem d_X10_tells_51 : pm_B e_X10_tells 51 (fun z => .goto z) 68 54 := ⟨17, by decide +kernel, by decide, rfl⟩
theorem d_X10_tells_54 : pm_i e_X10_tells 54 .aload_n .aload 0 55 := Or.inl ⟨0, by decide +kernel, rfl, rfl⟩
theorem d_X10_tells_55 : pm_F e_X10_tells 55 .getfield (RX10, "hasFinger", "[Z") 58 := ⟨26, by decide +kernel, rfl, Or.inl wm_745⟩
theorem d_X10_tells_58 : pm_i e_X10_tells 58 .iload_n .iload 1 59 := Or.inl ⟨1, by decide +kernel, rfl, rfl⟩
theorem d_X10_tells_59 : pm_D e_X10_tells 59 1 (.baload) 60 := ⟨by decide +kernel, rfl⟩
theorem d_X10_tells_60 : pm_B e_X10_tells 60 (fun z => .ifCond .eq z) 67 63 := ⟨7, by decide +kernel, by decide, rfl⟩
theorem d_X10_tells_63 : pm_P e_X10_tells 63 1 64 := Or.inl ⟨1, by decide +kernel, by decide +kernel, rfl⟩
theorem d_X10_tells_64 : pm_B e_X10_tells 64 (fun z => .goto z) 68 67 := ⟨4, by decide +kernel, by decide, rfl⟩
theorem d_X10_tells_67 : pm_P e_X10_tells 67 0 68 := Or.inl ⟨0, by decide +kernel, by decide +kernel, rfl⟩
theorem d_X10_tells_68 : pm_D e_X10_tells 68 1 (.ireturn) 69 := ⟨by decide +kernel, rfl⟩
theorem d_X10_told_0 : pm_i e_X10_told 0 .aload_n .aload 0 1 := Or.inl ⟨0, by decide +kernel, rfl, rfl⟩
theorem d_X10_told_1 : pm_i e_X10_told 1 .iload_n .iload 1 2 := Or.inl ⟨1, by decide +kernel, rfl, rfl⟩
theorem d_X10_told_2 : pm_kV e_X10_told 2 e_X10_isCaster RX10 1 5 := ⟨118, by decide +kernel, rfl, fit_X10_told_X10_isCaster, wm_865, Or.inl ⟨wm_863, wm_20⟩⟩
theorem d_X10_told_5 : pm_B e_X10_told 5 (fun z => .ifCond .eq z) 26 8 := ⟨21, by decide +kernel, by decide, rfl⟩
theorem d_X10_told_8 : pm_i e_X10_told 8 .iload_n .iload 2 9 := Or.inl ⟨2, by decide +kernel, rfl, rfl⟩
theorem d_X10_told_9 : pm_P e_X10_told 9 0 10 := Or.inl ⟨0, by decide +kernel, by decide +kernel, rfl⟩
theorem d_X10_told_10 : pm_P e_X10_told 10 3 11 := Or.inl ⟨3, by decide +kernel, by decide +kernel, rfl⟩
theorem d_X10_told_11 : pm_kS e_X10_told 11 e_X10_in 3 14 := ⟨106, by decide +kernel, rfl, fit_X10_told_X10_in, wm_853, Or.inl wm_852⟩
theorem d_X10_told_14 : pm_B e_X10_told 14 (fun z => .ifCond .eq z) 26 17 := ⟨12, by decide +kernel, by decide, rfl⟩
theorem d_X10_told_17 : pm_i e_X10_told 17 .aload_n .aload 0 18 := Or.inl ⟨0, by decide +kernel, rfl, rfl⟩
theorem d_X10_told_18 : pm_i e_X10_told 18 .iload_n .iload 1 19 := Or.inl ⟨1, by decide +kernel, rfl, rfl⟩
theorem d_X10_told_19 : pm_i e_X10_told 19 .iload_n .iload 2 20 := Or.inl ⟨2, by decide +kernel, rfl, rfl⟩
theorem d_X10_told_20 : pm_kV e_X10_told 20 e_X10_tells RX10 2 23 := ⟨121, by decide +kernel, rfl, fit_X10_told_X10_tells, wm_869, Or.inl ⟨wm_867, wm_21⟩⟩
theorem d_X10_told_23 : pm_B e_X10_told 23 (fun z => .goto z) 27 26 := ⟨4, by decide +kernel, by decide, rfl⟩
theorem d_X10_told_26 : pm_P e_X10_told 26 (-1) 27 := Or.inl ⟨-1, by decide +kernel, by decide +kernel, rfl⟩
theorem d_X10_told_27 : pm_D e_X10_told 27 1 (.ireturn) 28 := ⟨by decide +kernel, rfl⟩
theorem d_X10_rest_0 : pm_i e_X10_rest 0 .iload_n .iload 0 1 := Or.inl ⟨0, by decide +kernel, rfl, rfl⟩
theorem d_X10_rest_1 : pm_B e_X10_rest 1 (fun z => .ifCond .ne z) 8 4 := ⟨7, by decide +kernel, by decide, rfl⟩
theorem d_X10_rest_4 : pm_P e_X10_rest 4 0 5 := Or.inl ⟨0, by decide +kernel, by decide +kernel, rfl⟩
theorem d_X10_rest_5 : pm_B e_X10_rest 5 (fun z => .goto z) 21 8 := ⟨16, by decide +kernel, by decide, rfl⟩
theorem d_X10_rest_8 : pm_i e_X10_rest 8 .iload_n .iload 0 9 := Or.inl ⟨0, by decide +kernel, rfl, rfl⟩
theorem d_X10_rest_9 : pm_i e_X10_rest 9 .iload_n .iload 1 10 := Or.inl ⟨1, by decide +kernel, rfl, rfl⟩
theorem d_X10_rest_10 : pm_D e_X10_rest 10 1 (.irem) 11 := ⟨by decide +kernel, rfl⟩
theorem d_X10_rest_11 : pm_B e_X10_rest 11 (fun z => .ifCond .ne z) 18 14 := ⟨7, by decide +kernel, by decide, rfl⟩
theorem d_X10_rest_14 : pm_i e_X10_rest 14 .iload_n .iload 1 15 := Or.inl ⟨1, by decide +kernel, rfl, rfl⟩
theorem d_X10_rest_15 : pm_B e_X10_rest 15 (fun z => .goto z) 21 18 := ⟨6, by decide +kernel, by decide, rfl⟩
theorem d_X10_rest_18 : pm_i e_X10_rest 18 .iload_n .iload 0 19 := Or.inl ⟨0, by decide +kernel, rfl, rfl⟩
theorem d_X10_rest_19 : pm_i e_X10_rest 19 .iload_n .iload 1 20 := Or.inl ⟨1, by decide +kernel, rfl, rfl⟩
theorem d_X10_rest_20 : pm_D e_X10_rest 20 1 (.irem) 21 := ⟨by decide +kernel, rfl⟩
theorem d_X10_rest_21 : pm_D e_X10_rest 21 1 (.ireturn) 22 := ⟨by decide +kernel, rfl⟩
theorem d_X10_left_0 : pm_i e_X10_left 0 .iload_n .iload 2 1 := Or.inl ⟨2, by decide +kernel, rfl, rfl⟩
theorem d_X10_left_1 : pm_i e_X10_left 1 .iload_n .iload 3 2 := Or.inl ⟨3, by decide +kernel, rfl, rfl⟩
theorem d_X10_left_2 : pm_D e_X10_left 2 1 (.isub) 3 := ⟨by decide +kernel, rfl⟩
theorem d_X10_left_3 : pm_i e_X10_left 3 .aload_n .aload 0 4 := Or.inl ⟨0, by decide +kernel, rfl, rfl⟩
theorem d_X10_left_4 : pm_F e_X10_left 4 .getfield (RX10, "hasFinger", "[Z") 7 := ⟨26, by decide +kernel, rfl, Or.inl wm_745⟩
theorem d_X10_left_7 : pm_i e_X10_left 7 .iload_n .iload 1 8 := Or.inl ⟨1, by decide +kernel, rfl, rfl⟩
theorem d_X10_left_8 : pm_D e_X10_left 8 1 (.baload) 9 := ⟨by decide +kernel, rfl⟩
theorem d_X10_left_9 : pm_B e_X10_left 9 (fun z => .ifCond .eq z) 16 12 := ⟨7, by decide +kernel, by decide, rfl⟩
theorem d_X10_left_12 : pm_P e_X10_left 12 1 13 := Or.inl ⟨1, by decide +kernel, by decide +kernel, rfl⟩
theorem d_X10_left_13 : pm_B e_X10_left 13 (fun z => .goto z) 17 16 := ⟨4, by decide +kernel, by decide, rfl⟩
theorem d_X10_left_16 : pm_P e_X10_left 16 0 17 := Or.inl ⟨0, by decide +kernel, by decide +kernel, rfl⟩
theorem d_X10_left_17 : pm_D e_X10_left 17 1 (.isub) 18 := ⟨by decide +kernel, rfl⟩
theorem d_X10_left_18 : pm_i e_X10_left 18 .istore_n .istore 4 20 := Or.inr ⟨by decide +kernel, rfl⟩
theorem d_X10_left_20 : pm_i e_X10_left 20 .iload_n .iload 3 21 := Or.inl ⟨3, by decide +kernel, rfl, rfl⟩
theorem d_X10_left_21 : pm_i e_X10_left 21 .iload_n .iload 3 22 := Or.inl ⟨3, by decide +kernel, rfl, rfl⟩
theorem d_X10_left_22 : pm_i e_X10_left 22 .aload_n .aload 0 23 := Or.inl ⟨0, by decide +kernel, rfl, rfl⟩
theorem d_X10_left_23 : pm_F e_X10_left 23 .getfield (RX10, "counts", "[I") 26 := ⟨23, by decide +kernel, rfl, Or.inl wm_744⟩
theorem d_X10_left_26 : pm_i e_X10_left 26 .iload_n .iload 1 27 := Or.inl ⟨1, by decide +kernel, rfl, rfl⟩
theorem d_X10_left_27 : pm_D e_X10_left 27 1 (.iaload) 28 := ⟨by decide +kernel, rfl⟩
theorem d_X10_left_28 : pm_kS e_X10_left 28 e_X10_rest 2 31 := ⟨125, by decide +kernel, rfl, fit_X10_left_X10_rest, wm_888, Or.inl wm_887⟩
theorem d_X10_left_31 : pm_D e_X10_left 31 1 (.isub) 32 := ⟨by decide +kernel, rfl⟩
theorem d_X10_left_32 : pm_i e_X10_left 32 .iload_n .iload 4 34 := Or.inr ⟨by decide +kernel, rfl⟩
theorem d_X10_left_34 : pm_D e_X10_left 34 1 (.iadd) 35 := ⟨by decide +kernel, rfl⟩
theorem d_X10_left_35 : pm_i e_X10_left 35 .iload_n .iload 4 37 := Or.inr ⟨by decide +kernel, rfl⟩
theorem d_X10_left_37 : pm_i e_X10_left 37 .aload_n .aload 0 38 := Or.inl ⟨0, by decide +kernel, rfl, rfl⟩
theorem d_X10_left_38 : pm_F e_X10_left 38 .getfield (RX10, "counts", "[I") 41 := ⟨23, by decide +kernel, rfl, Or.inl wm_744⟩
theorem d_X10_left_41 : pm_i e_X10_left 41 .iload_n .iload 1 42 := Or.inl ⟨1, by decide +kernel, rfl, rfl⟩
theorem d_X10_left_42 : pm_D e_X10_left 42 1 (.iaload) 43 := ⟨by decide +kernel, rfl⟩
theorem d_X10_left_43 : pm_kS e_X10_left 43 e_X10_rest 2 46 := ⟨125, by decide +kernel, rfl, fit_X10_left_X10_rest, wm_888, Or.inl wm_887⟩
theorem d_X10_left_46 : pm_D e_X10_left 46 1 (.isub) 47 := ⟨by decide +kernel, rfl⟩
theorem d_X10_left_47 : pm_D e_X10_left 47 1 (.ireturn) 48 := ⟨by decide +kernel, rfl⟩
theorem d_X10_first_0 : pm_i e_X10_first 0 .aload_n .aload 0 1 := Or.inl ⟨0, by decide +kernel, rfl, rfl⟩
theorem d_X10_first_1 : pm_F e_X10_first 1 .getfield (RX10, "lows", "[I") 4 := ⟨30, by decide +kernel, rfl, Or.inl wm_746⟩
theorem d_X10_first_4 : pm_i e_X10_first 4 .iload_n .iload 1 5 := Or.inl ⟨1, by decide +kernel, rfl, rfl⟩
theorem d_X10_first_5 : pm_D e_X10_first 5 1 (.iaload) 6 := ⟨by decide +kernel, rfl⟩
theorem d_X10_first_6 : pm_i e_X10_first 6 .iload_n .iload 2 7 := Or.inl ⟨2, by decide +kernel, rfl, rfl⟩
theorem d_X10_first_7 : pm_P e_X10_first 7 1 8 := Or.inl ⟨1, by decide +kernel, by decide +kernel, rfl⟩
theorem d_X10_first_8 : pm_D e_X10_first 8 1 (.isub) 9 := ⟨by decide +kernel, rfl⟩
theorem d_X10_first_9 : pm_B e_X10_first 9 (fun z => .if_icmp .le z) 18 12 := ⟨9, by decide +kernel, by decide, rfl⟩
theorem d_X10_first_12 : pm_i e_X10_first 12 .iload_n .iload 2 13 := Or.inl ⟨2, by decide +kernel, rfl, rfl⟩
theorem d_X10_first_13 : pm_P e_X10_first 13 1 14 := Or.inl ⟨1, by decide +kernel, by decide +kernel, rfl⟩
theorem d_X10_first_14 : pm_D e_X10_first 14 1 (.isub) 15 := ⟨by decide +kernel, rfl⟩
theorem d_X10_first_15 : pm_B e_X10_first 15 (fun z => .goto z) 24 18 := ⟨9, by decide +kernel, by decide, rfl⟩
theorem d_X10_first_18 : pm_i e_X10_first 18 .aload_n .aload 0 19 := Or.inl ⟨0, by decide +kernel, rfl, rfl⟩
theorem d_X10_first_19 : pm_F e_X10_first 19 .getfield (RX10, "lows", "[I") 22 := ⟨30, by decide +kernel, rfl, Or.inl wm_746⟩
theorem d_X10_first_22 : pm_i e_X10_first 22 .iload_n .iload 1 23 := Or.inl ⟨1, by decide +kernel, rfl, rfl⟩
theorem d_X10_first_23 : pm_D e_X10_first 23 1 (.iaload) 24 := ⟨by decide +kernel, rfl⟩
theorem d_X10_first_24 : pm_D e_X10_first 24 1 (.ireturn) 25 := ⟨by decide +kernel, rfl⟩
theorem d_X10_places_0 : pm_i e_X10_places 0 .aload_n .aload 0 1 := Or.inl ⟨0, by decide +kernel, rfl, rfl⟩
theorem d_X10_places_1 : pm_F e_X10_places 1 .getfield (RX10, "highs", "[I") 4 := ⟨33, by decide +kernel, rfl, Or.inl wm_747⟩
theorem d_X10_places_4 : pm_i e_X10_places 4 .iload_n .iload 1 5 := Or.inl ⟨1, by decide +kernel, rfl, rfl⟩
theorem d_X10_places_5 : pm_D e_X10_places 5 1 (.iaload) 6 := ⟨by decide +kernel, rfl⟩
theorem d_X10_places_6 : pm_i e_X10_places 6 .iload_n .iload 2 7 := Or.inl ⟨2, by decide +kernel, rfl, rfl⟩
theorem d_X10_places_7 : pm_P e_X10_places 7 1 8 := Or.inl ⟨1, by decide +kernel, by decide +kernel, rfl⟩
theorem d_X10_places_8 : pm_D e_X10_places 8 1 (.isub) 9 := ⟨by decide +kernel, rfl⟩
theorem d_X10_places_9 : pm_B e_X10_places 9 (fun z => .if_icmp .le z) 18 12 := ⟨9, by decide +kernel, by decide, rfl⟩
theorem d_X10_places_12 : pm_i e_X10_places 12 .iload_n .iload 2 13 := Or.inl ⟨2, by decide +kernel, rfl, rfl⟩
theorem d_X10_places_13 : pm_P e_X10_places 13 1 14 := Or.inl ⟨1, by decide +kernel, by decide +kernel, rfl⟩
theorem d_X10_places_14 : pm_D e_X10_places 14 1 (.isub) 15 := ⟨by decide +kernel, rfl⟩
theorem d_X10_places_15 : pm_B e_X10_places 15 (fun z => .goto z) 24 18 := ⟨9, by decide +kernel, by decide, rfl⟩
theorem d_X10_places_18 : pm_i e_X10_places 18 .aload_n .aload 0 19 := Or.inl ⟨0, by decide +kernel, rfl, rfl⟩
theorem d_X10_places_19 : pm_F e_X10_places 19 .getfield (RX10, "highs", "[I") 22 := ⟨33, by decide +kernel, rfl, Or.inl wm_747⟩
theorem d_X10_places_22 : pm_i e_X10_places 22 .iload_n .iload 1 23 := Or.inl ⟨1, by decide +kernel, rfl, rfl⟩
theorem d_X10_places_23 : pm_D e_X10_places 23 1 (.iaload) 24 := ⟨by decide +kernel, rfl⟩
theorem d_X10_places_24 : pm_i e_X10_places 24 .istore_n .istore 3 25 := Or.inl ⟨3, by decide +kernel, rfl, rfl⟩
theorem d_X10_places_25 : pm_i e_X10_places 25 .iload_n .iload 3 26 := Or.inl ⟨3, by decide +kernel, rfl, rfl⟩
theorem d_X10_places_26 : pm_i e_X10_places 26 .aload_n .aload 0 27 := Or.inl ⟨0, by decide +kernel, rfl, rfl⟩
theorem d_X10_places_27 : pm_i e_X10_places 27 .iload_n .iload 1 28 := Or.inl ⟨1, by decide +kernel, rfl, rfl⟩
theorem d_X10_places_28 : pm_i e_X10_places 28 .iload_n .iload 2 29 := Or.inl ⟨2, by decide +kernel, rfl, rfl⟩
theorem d_X10_places_29 : pm_kV e_X10_places 29 e_X10_first RX10 2 32 := ⟨128, by decide +kernel, rfl, fit_X10_places_X10_first, wm_896, Or.inl ⟨wm_894, wm_26⟩⟩
theorem d_X10_places_32 : pm_D e_X10_places 32 1 (.isub) 33 := ⟨by decide +kernel, rfl⟩
theorem d_X10_places_33 : pm_P e_X10_places 33 1 34 := Or.inl ⟨1, by decide +kernel, by decide +kernel, rfl⟩
theorem d_X10_places_34 : pm_D e_X10_places 34 1 (.iadd) 35 := ⟨by decide +kernel, rfl⟩
theorem d_X10_places_35 : pm_D e_X10_places 35 1 (.ireturn) 36 := ⟨by decide +kernel, rfl⟩
theorem d_X10_mark_0 : pm_i e_X10_mark 0 .aload_n .aload 0 1 := Or.inl ⟨0, by decide +kernel, rfl, rfl⟩
theorem d_X10_mark_1 : pm_i e_X10_mark 1 .iload_n .iload 1 2 := Or.inl ⟨1, by decide +kernel, rfl, rfl⟩
theorem d_X10_mark_2 : pm_kV e_X10_mark 2 e_X10_isCaster RX10 1 5 := ⟨118, by decide +kernel, rfl, fit_X10_mark_X10_isCaster, wm_865, Or.inl ⟨wm_863, wm_20⟩⟩
theorem d_X10_mark_5 : pm_B e_X10_mark 5 (fun z => .ifCond .eq z) 17 8 := ⟨12, by decide +kernel, by decide, rfl⟩
theorem d_X10_mark_8 : pm_i e_X10_mark 8 .iload_n .iload 2 9 := Or.inl ⟨2, by decide +kernel, rfl, rfl⟩
theorem d_X10_mark_9 : pm_P e_X10_mark 9 1 10 := Or.inl ⟨1, by decide +kernel, by decide +kernel, rfl⟩
theorem d_X10_mark_10 : pm_P e_X10_mark 10 3 11 := Or.inl ⟨3, by decide +kernel, by decide +kernel, rfl⟩
theorem d_X10_mark_11 : pm_kS e_X10_mark 11 e_X10_in 3 14 := ⟨106, by decide +kernel, rfl, fit_X10_mark_X10_in, wm_853, Or.inl wm_852⟩
theorem d_X10_mark_14 : pm_B e_X10_mark 14 (fun z => .ifCond .ne z) 19 17 := ⟨5, by decide +kernel, by decide, rfl⟩
theorem d_X10_mark_17 : pm_P e_X10_mark 17 (-1) 18 := Or.inl ⟨-1, by decide +kernel, by decide +kernel, rfl⟩
theorem d_X10_mark_18 : pm_D e_X10_mark 18 1 (.ireturn) 19 := ⟨by decide +kernel, rfl⟩
theorem d_X10_mark_19 : pm_i e_X10_mark 19 .aload_n .aload 0 20 := Or.inl ⟨0, by decide +kernel, rfl, rfl⟩
theorem d_X10_mark_20 : pm_F e_X10_mark 20 .getfield (RX10, "kinds", "[I") 23 := ⟨17, by decide +kernel, rfl, Or.inl wm_742⟩
theorem d_X10_mark_23 : pm_i e_X10_mark 23 .iload_n .iload 1 24 := Or.inl ⟨1, by decide +kernel, rfl, rfl⟩
theorem d_X10_mark_24 : pm_D e_X10_mark 24 1 (.iaload) 25 := ⟨by decide +kernel, rfl⟩
theorem d_X10_mark_25 : pm_i e_X10_mark 25 .iload_n .iload 2 26 := Or.inl ⟨2, by decide +kernel, rfl, rfl⟩
theorem d_X10_mark_26 : pm_B e_X10_mark 26 (fun z => .if_icmp .eq z) 50 29 := ⟨24, by decide +kernel, by decide, rfl⟩
theorem d_X10_mark_29 : pm_i e_X10_mark 29 .iload_n .iload 2 30 := Or.inl ⟨2, by decide +kernel, rfl, rfl⟩
theorem d_X10_mark_30 : pm_P e_X10_mark 30 1 31 := Or.inl ⟨1, by decide +kernel, by decide +kernel, rfl⟩
theorem d_X10_mark_31 : pm_B e_X10_mark 31 (fun z => .if_icmp .ne z) 44 34 := ⟨13, by decide +kernel, by decide, rfl⟩
theorem d_X10_mark_34 : pm_i e_X10_mark 34 .aload_n .aload 0 35 := Or.inl ⟨0, by decide +kernel, rfl, rfl⟩
theorem d_X10_mark_35 : pm_F e_X10_mark 35 .getfield (RX10, "kinds", "[I") 38 := ⟨17, by decide +kernel, rfl, Or.inl wm_742⟩
theorem d_X10_mark_38 : pm_i e_X10_mark 38 .iload_n .iload 1 39 := Or.inl ⟨1, by decide +kernel, rfl, rfl⟩
theorem d_X10_mark_39 : pm_D e_X10_mark 39 1 (.iaload) 40 := ⟨by decide +kernel, rfl⟩
theorem d_X10_mark_40 : pm_P e_X10_mark 40 3 41 := Or.inl ⟨3, by decide +kernel, by decide +kernel, rfl⟩
theorem d_X10_mark_41 : pm_B e_X10_mark 41 (fun z => .if_icmp .eq z) 50 44 := ⟨9, by decide +kernel, by decide, rfl⟩
theorem d_X10_mark_44 : pm_i e_X10_mark 44 .aload_n .aload 0 45 := Or.inl ⟨0, by decide +kernel, rfl, rfl⟩
theorem d_X10_mark_45 : pm_P e_X10_mark 45 3 46 := Or.inl ⟨3, by decide +kernel, by decide +kernel, rfl⟩
theorem d_X10_mark_46 : pm_kV e_X10_mark 46 e_X10_meets RX10 1 49 := ⟨131, by decide +kernel, rfl, fit_X10_mark_X10_meets, wm_881, Or.inl ⟨wm_879, wm_23⟩⟩
theorem d_X10_mark_49 : pm_D e_X10_mark 49 1 (.ireturn) 50 := ⟨by decide +kernel, rfl⟩
theorem d_X10_mark_50 : pm_i e_X10_mark 50 .iload_n .iload 2 51 := Or.inl ⟨2, by decide +kernel, rfl, rfl⟩
theorem d_X10_mark_51 : pm_P e_X10_mark 51 1 52 := Or.inl ⟨1, by decide +kernel, by decide +kernel, rfl⟩
theorem d_X10_mark_52 : pm_B e_X10_mark 52 (fun z => .if_icmp .ne z) 70 55 := ⟨18, by decide +kernel, by decide, rfl⟩
theorem d_X10_mark_55 : pm_i e_X10_mark 55 .aload_n .aload 0 56 := Or.inl ⟨0, by decide +kernel, rfl, rfl⟩
theorem d_X10_mark_56 : pm_i e_X10_mark 56 .iload_n .iload 1 57 := Or.inl ⟨1, by decide +kernel, rfl, rfl⟩
theorem d_X10_mark_57 : pm_i e_X10_mark 57 .aload_n .aload 0 58 := Or.inl ⟨0, by decide +kernel, rfl, rfl⟩
theorem d_X10_mark_58 : pm_F e_X10_mark 58 .getfield (RX10, "sticks", "[I") 61 := ⟨20, by decide +kernel, rfl, Or.inl wm_743⟩
theorem d_X10_mark_61 : pm_i e_X10_mark 61 .iload_n .iload 1 62 := Or.inl ⟨1, by decide +kernel, rfl, rfl⟩
theorem d_X10_mark_62 : pm_D e_X10_mark 62 1 (.iaload) 63 := ⟨by decide +kernel, rfl⟩
theorem d_X10_mark_63 : pm_P e_X10_mark 63 1 64 := Or.inl ⟨1, by decide +kernel, by decide +kernel, rfl⟩
theorem d_X10_mark_64 : pm_kV e_X10_mark 64 e_X10_left RX10 3 67 := ⟨135, by decide +kernel, rfl, fit_X10_mark_X10_left, wm_885, Or.inl ⟨wm_883, wm_24⟩⟩
theorem d_X10_mark_67 : pm_B e_X10_mark 67 (fun z => .goto z) 90 70 := ⟨23, by decide +kernel, by decide, rfl⟩
theorem d_X10_mark_70 : pm_i e_X10_mark 70 .iload_n .iload 2 71 := Or.inl ⟨2, by decide +kernel, rfl, rfl⟩
theorem d_X10_mark_71 : pm_P e_X10_mark 71 2 72 := Or.inl ⟨2, by decide +kernel, by decide +kernel, rfl⟩
theorem d_X10_mark_72 : pm_B e_X10_mark 72 (fun z => .if_icmp .ne z) 79 75 := ⟨7, by decide +kernel, by decide, rfl⟩
theorem d_X10_mark_75 : pm_P e_X10_mark 75 4 76 := Or.inl ⟨4, by decide +kernel, by decide +kernel, rfl⟩
theorem d_X10_mark_76 : pm_B e_X10_mark 76 (fun z => .goto z) 90 79 := ⟨14, by decide +kernel, by decide, rfl⟩
theorem d_X10_mark_79 : pm_i e_X10_mark 79 .aload_n .aload 0 80 := Or.inl ⟨0, by decide +kernel, rfl, rfl⟩
theorem d_X10_mark_80 : pm_i e_X10_mark 80 .iload_n .iload 1 81 := Or.inl ⟨1, by decide +kernel, rfl, rfl⟩
theorem d_X10_mark_81 : pm_i e_X10_mark 81 .aload_n .aload 0 82 := Or.inl ⟨0, by decide +kernel, rfl, rfl⟩
theorem d_X10_mark_82 : pm_F e_X10_mark 82 .getfield (RX10, "sticks", "[I") 85 := ⟨20, by decide +kernel, rfl, Or.inl wm_743⟩
theorem d_X10_mark_85 : pm_i e_X10_mark 85 .iload_n .iload 1 86 := Or.inl ⟨1, by decide +kernel, rfl, rfl⟩
theorem d_X10_mark_86 : pm_D e_X10_mark 86 1 (.iaload) 87 := ⟨by decide +kernel, rfl⟩
theorem d_X10_mark_87 : pm_kV e_X10_mark 87 e_X10_places RX10 2 90 := ⟨139, by decide +kernel, rfl, fit_X10_mark_X10_places, wm_892, Or.inl ⟨wm_890, wm_25⟩⟩
theorem d_X10_mark_90 : pm_D e_X10_mark 90 1 (.ireturn) 91 := ⟨by decide +kernel, rfl⟩
theorem d_X10_part_0 : pm_i e_X10_part 0 .aload_n .aload 0 1 := Or.inl ⟨0, by decide +kernel, rfl, rfl⟩
theorem d_X10_part_1 : pm_i e_X10_part 1 .iload_n .iload 1 2 := Or.inl ⟨1, by decide +kernel, rfl, rfl⟩
theorem d_X10_part_2 : pm_kV e_X10_part 2 e_X10_isCaster RX10 1 5 := ⟨118, by decide +kernel, rfl, fit_X10_part_X10_isCaster, wm_865, Or.inl ⟨wm_863, wm_20⟩⟩
theorem d_X10_part_5 : pm_B e_X10_part 5 (fun z => .ifCond .eq z) 18 8 := ⟨13, by decide +kernel, by decide, rfl⟩
theorem d_X10_part_8 : pm_i e_X10_part 8 .iload_n .iload 2 9 := Or.inl ⟨2, by decide +kernel, rfl, rfl⟩
theorem d_X10_part_9 : pm_P e_X10_part 9 0 10 := Or.inl ⟨0, by decide +kernel, by decide +kernel, rfl⟩
theorem d_X10_part_10 : pm_P e_X10_part 10 60 12 := Or.inr <| Or.inl ⟨60, by decide +kernel, by decide +kernel, rfl⟩
theorem d_X10_part_12 : pm_kS e_X10_part 12 e_X10_in 3 15 := ⟨106, by decide +kernel, rfl, fit_X10_part_X10_in, wm_853, Or.inl wm_852⟩
theorem d_X10_part_15 : pm_B e_X10_part 15 (fun z => .ifCond .ne z) 20 18 := ⟨5, by decide +kernel, by decide, rfl⟩
theorem d_X10_part_18 : pm_P e_X10_part 18 (-1) 19 := Or.inl ⟨-1, by decide +kernel, by decide +kernel, rfl⟩
theorem d_X10_part_19 : pm_D e_X10_part 19 1 (.ireturn) 20 := ⟨by decide +kernel, rfl⟩
theorem d_X10_part_20 : pm_i e_X10_part 20 .aload_n .aload 0 21 := Or.inl ⟨0, by decide +kernel, rfl, rfl⟩
theorem d_X10_part_21 : pm_i e_X10_part 21 .iload_n .iload 1 22 := Or.inl ⟨1, by decide +kernel, rfl, rfl⟩
theorem d_X10_part_22 : pm_kV e_X10_part 22 e_X10_parts RX10 1 25 := ⟨114, by decide +kernel, rfl, fit_X10_part_X10_parts, wm_873, Or.inl ⟨wm_871, wm_22⟩⟩
theorem d_X10_part_25 : pm_B e_X10_part 25 (fun z => .ifCond .ne z) 34 28 := ⟨9, by decide +kernel, by decide, rfl⟩
theorem d_X10_part_28 : pm_i e_X10_part 28 .aload_n .aload 0 29 := Or.inl ⟨0, by decide +kernel, rfl, rfl⟩
theorem d_X10_part_29 : pm_P e_X10_part 29 3 30 := Or.inl ⟨3, by decide +kernel, by decide +kernel, rfl⟩
theorem d_X10_part_30 : pm_kV e_X10_part 30 e_X10_meets RX10 1 33 := ⟨131, by decide +kernel, rfl, fit_X10_part_X10_meets, wm_881, Or.inl ⟨wm_879, wm_23⟩⟩
theorem d_X10_part_33 : pm_D e_X10_part 33 1 (.ireturn) 34 := ⟨by decide +kernel, rfl⟩
theorem d_X10_part_34 : pm_i e_X10_part 34 .iload_n .iload 2 35 := Or.inl ⟨2, by decide +kernel, rfl, rfl⟩
theorem d_X10_part_35 : pm_P e_X10_part 35 2 36 := Or.inl ⟨2, by decide +kernel, by decide +kernel, rfl⟩
theorem d_X10_part_36 : pm_B e_X10_part 36 (fun z => .if_icmp .ge z) 43 39 := ⟨7, by decide +kernel, by decide, rfl⟩
theorem d_X10_part_39 : pm_i e_X10_part 39 .iload_n .iload 2 40 := Or.inl ⟨2, by decide +kernel, rfl, rfl⟩
theorem d_X10_part_40 : pm_B e_X10_part 40 (fun z => .goto z) 69 43 := ⟨29, by decide +kernel, by decide, rfl⟩
theorem d_X10_part_43 : pm_i e_X10_part 43 .iload_n .iload 3 44 := Or.inl ⟨3, by decide +kernel, rfl, rfl⟩
theorem d_X10_part_44 : pm_P e_X10_part 44 1 45 := Or.inl ⟨1, by decide +kernel, by decide +kernel, rfl⟩
theorem d_X10_part_45 : pm_i e_X10_part 45 .iload_n .iload 2 46 := Or.inl ⟨2, by decide +kernel, rfl, rfl⟩
theorem d_X10_part_46 : pm_P e_X10_part 46 1 47 := Or.inl ⟨1, by decide +kernel, by decide +kernel, rfl⟩
theorem d_X10_part_47 : pm_D e_X10_part 47 1 (.isub) 48 := ⟨by decide +kernel, rfl⟩
theorem d_X10_part_48 : pm_kS e_X10_part 48 e_X10_in 3 51 := ⟨106, by decide +kernel, rfl, fit_X10_part_X10_in, wm_853, Or.inl wm_852⟩
theorem d_X10_part_51 : pm_B e_X10_part 51 (fun z => .ifCond .eq z) 64 54 := ⟨13, by decide +kernel, by decide, rfl⟩
theorem d_X10_part_54 : pm_i e_X10_part 54 .aload_n .aload 0 55 := Or.inl ⟨0, by decide +kernel, rfl, rfl⟩
theorem d_X10_part_55 : pm_i e_X10_part 55 .iload_n .iload 1 56 := Or.inl ⟨1, by decide +kernel, rfl, rfl⟩
theorem d_X10_part_56 : pm_i e_X10_part 56 .iload_n .iload 2 57 := Or.inl ⟨2, by decide +kernel, rfl, rfl⟩
theorem d_X10_part_57 : pm_i e_X10_part 57 .iload_n .iload 3 58 := Or.inl ⟨3, by decide +kernel, rfl, rfl⟩
theorem d_X10_part_58 : pm_kV e_X10_part 58 e_X10_left RX10 3 61 := ⟨135, by decide +kernel, rfl, fit_X10_part_X10_left, wm_885, Or.inl ⟨wm_883, wm_24⟩⟩
theorem d_X10_part_61 : pm_B e_X10_part 61 (fun z => .goto z) 69 64 := ⟨8, by decide +kernel, by decide, rfl⟩
theorem d_X10_part_64 : pm_i e_X10_part 64 .aload_n .aload 0 65 := Or.inl ⟨0, by decide +kernel, rfl, rfl⟩
theorem d_X10_part_65 : pm_P e_X10_part 65 2 66 := Or.inl ⟨2, by decide +kernel, by decide +kernel, rfl⟩
theorem d_X10_part_66 : pm_kV e_X10_part 66 e_X10_meets RX10 1 69 := ⟨131, by decide +kernel, rfl, fit_X10_part_X10_meets, wm_881, Or.inl ⟨wm_879, wm_23⟩⟩
theorem d_X10_part_69 : pm_D e_X10_part 69 1 (.ireturn) 70 := ⟨by decide +kernel, rfl⟩
theorem d_X10_line_0 : pm_i e_X10_line 0 .aload_n .aload 0 1 := Or.inl ⟨0, by decide +kernel, rfl, rfl⟩
theorem d_X10_line_1 : pm_i e_X10_line 1 .iload_n .iload 1 2 := Or.inl ⟨1, by decide +kernel, rfl, rfl⟩
theorem d_X10_line_2 : pm_kV e_X10_line 2 e_X10_isCaster RX10 1 5 := ⟨118, by decide +kernel, rfl, fit_X10_line_X10_isCaster, wm_865, Or.inl ⟨wm_863, wm_20⟩⟩
theorem d_X10_line_5 : pm_B e_X10_line 5 (fun z => .ifCond .ne z) 10 8 := ⟨5, by decide +kernel, by decide, rfl⟩
theorem d_X10_line_8 : pm_P e_X10_line 8 (-1) 9 := Or.inl ⟨-1, by decide +kernel, by decide +kernel, rfl⟩
theorem d_X10_line_9 : pm_D e_X10_line 9 1 (.ireturn) 10 := ⟨by decide +kernel, rfl⟩
theorem d_X10_line_10 : pm_i e_X10_line 10 .aload_n .aload 0 11 := Or.inl ⟨0, by decide +kernel, rfl, rfl⟩
theorem d_X10_line_11 : pm_i e_X10_line 11 .iload_n .iload 1 12 := Or.inl ⟨1, by decide +kernel, rfl, rfl⟩
theorem d_X10_line_12 : pm_kV e_X10_line 12 e_X10_parts RX10 1 15 := ⟨114, by decide +kernel, rfl, fit_X10_line_X10_parts, wm_873, Or.inl ⟨wm_871, wm_22⟩⟩
theorem d_X10_line_15 : pm_B e_X10_line 15 (fun z => .ifCond .ne z) 24 18 := ⟨9, by decide +kernel, by decide, rfl⟩
theorem d_X10_line_18 : pm_i e_X10_line 18 .aload_n .aload 0 19 := Or.inl ⟨0, by decide +kernel, rfl, rfl⟩
theorem d_X10_line_19 : pm_P e_X10_line 19 3 20 := Or.inl ⟨3, by decide +kernel, by decide +kernel, rfl⟩
theorem d_X10_line_20 : pm_kV e_X10_line 20 e_X10_meets RX10 1 23 := ⟨131, by decide +kernel, rfl, fit_X10_line_X10_meets, wm_881, Or.inl ⟨wm_879, wm_23⟩⟩
theorem d_X10_line_23 : pm_D e_X10_line 23 1 (.ireturn) 24 := ⟨by decide +kernel, rfl⟩
theorem d_X10_line_24 : pm_i e_X10_line 24 .aload_n .aload 0 25 := Or.inl ⟨0, by decide +kernel, rfl, rfl⟩
theorem d_X10_line_25 : pm_F e_X10_line 25 .getfield (RX10, "sticks", "[I") 28 := ⟨20, by decide +kernel, rfl, Or.inl wm_743⟩
theorem d_X10_line_28 : pm_i e_X10_line 28 .iload_n .iload 1 29 := Or.inl ⟨1, by decide +kernel, rfl, rfl⟩
theorem d_X10_line_29 : pm_D e_X10_line 29 1 (.iaload) 30 := ⟨by decide +kernel, rfl⟩
theorem d_X10_line_30 : pm_i e_X10_line 30 .istore_n .istore 5 32 := Or.inr ⟨by decide +kernel, rfl⟩
theorem d_X10_line_32 : pm_P e_X10_line 32 0 33 := Or.inl ⟨0, by decide +kernel, by decide +kernel, rfl⟩
theorem d_X10_line_33 : pm_i e_X10_line 33 .istore_n .istore 6 35 := Or.inr ⟨by decide +kernel, rfl⟩
theorem d_X10_line_35 : pm_i e_X10_line 35 .iload_n .iload 6 37 := Or.inr ⟨by decide +kernel, rfl⟩
theorem d_X10_line_37 : pm_P e_X10_line 37 3 38 := Or.inl ⟨3, by decide +kernel, by decide +kernel, rfl⟩
theorem d_X10_line_38 : pm_B e_X10_line 38 (fun z => .if_icmp .ge z) 106 41 := ⟨68, by decide +kernel, by decide, rfl⟩
theorem d_X10_line_41 : pm_i e_X10_line 41 .iload_n .iload 6 43 := Or.inr ⟨by decide +kernel, rfl⟩
theorem d_X10_line_43 : pm_B e_X10_line 43 (fun z => .ifCond .ne z) 50 46 := ⟨7, by decide +kernel, by decide, rfl⟩
theorem d_X10_line_46 : pm_i e_X10_line 46 .iload_n .iload 2 47 := Or.inl ⟨2, by decide +kernel, rfl, rfl⟩
theorem d_X10_line_47 : pm_B e_X10_line 47 (fun z => .goto z) 62 50 := ⟨15, by decide +kernel, by decide, rfl⟩
theorem d_X10_line_50 : pm_i e_X10_line 50 .iload_n .iload 6 52 := Or.inr ⟨by decide +kernel, rfl⟩
theorem d_X10_line_52 : pm_P e_X10_line 52 1 53 := Or.inl ⟨1, by decide +kernel, by decide +kernel, rfl⟩
theorem d_X10_line_53 : pm_B e_X10_line 53 (fun z => .if_icmp .ne z) 60 56 := ⟨7, by decide +kernel, by decide, rfl⟩
theorem d_X10_line_56 : pm_i e_X10_line 56 .iload_n .iload 3 57 := Or.inl ⟨3, by decide +kernel, rfl, rfl⟩
theorem d_X10_line_57 : pm_B e_X10_line 57 (fun z => .goto z) 62 60 := ⟨5, by decide +kernel, by decide, rfl⟩
theorem d_X10_line_60 : pm_i e_X10_line 60 .iload_n .iload 4 62 := Or.inr ⟨by decide +kernel, rfl⟩
theorem d_X10_line_62 : pm_i e_X10_line 62 .istore_n .istore 7 64 := Or.inr ⟨by decide +kernel, rfl⟩
theorem d_X10_line_64 : pm_i e_X10_line 64 .iload_n .iload 5 66 := Or.inr ⟨by decide +kernel, rfl⟩
theorem d_X10_line_66 : pm_P e_X10_line 66 1 67 := Or.inl ⟨1, by decide +kernel, by decide +kernel, rfl⟩
theorem d_X10_line_67 : pm_B e_X10_line 67 (fun z => .if_icmp .le z) 100 70 := ⟨33, by decide +kernel, by decide, rfl⟩
theorem d_X10_line_70 : pm_i e_X10_line 70 .iload_n .iload 7 72 := Or.inr ⟨by decide +kernel, rfl⟩
theorem d_X10_line_72 : pm_P e_X10_line 72 1 73 := Or.inl ⟨1, by decide +kernel, by decide +kernel, rfl⟩
theorem d_X10_line_73 : pm_i e_X10_line 73 .iload_n .iload 5 75 := Or.inr ⟨by decide +kernel, rfl⟩
theorem d_X10_line_75 : pm_P e_X10_line 75 1 76 := Or.inl ⟨1, by decide +kernel, by decide +kernel, rfl⟩
theorem d_X10_line_76 : pm_D e_X10_line 76 1 (.isub) 77 := ⟨by decide +kernel, rfl⟩
theorem d_X10_line_77 : pm_kS e_X10_line 77 e_X10_in 3 80 := ⟨106, by decide +kernel, rfl, fit_X10_line_X10_in, wm_853, Or.inl wm_852⟩
theorem d_X10_line_80 : pm_B e_X10_line 80 (fun z => .ifCond .ne z) 89 83 := ⟨9, by decide +kernel, by decide, rfl⟩
theorem d_X10_line_83 : pm_i e_X10_line 83 .aload_n .aload 0 84 := Or.inl ⟨0, by decide +kernel, rfl, rfl⟩
theorem d_X10_line_84 : pm_P e_X10_line 84 2 85 := Or.inl ⟨2, by decide +kernel, by decide +kernel, rfl⟩
theorem d_X10_line_85 : pm_kV e_X10_line 85 e_X10_meets RX10 1 88 := ⟨131, by decide +kernel, rfl, fit_X10_line_X10_meets, wm_881, Or.inl ⟨wm_879, wm_23⟩⟩
theorem d_X10_line_88 : pm_D e_X10_line 88 1 (.ireturn) 89 := ⟨by decide +kernel, rfl⟩
theorem d_X10_line_89 : pm_i e_X10_line 89 .aload_n .aload 0 90 := Or.inl ⟨0, by decide +kernel, rfl, rfl⟩
theorem d_X10_line_90 : pm_i e_X10_line 90 .iload_n .iload 1 91 := Or.inl ⟨1, by decide +kernel, rfl, rfl⟩
theorem d_X10_line_91 : pm_i e_X10_line 91 .iload_n .iload 5 93 := Or.inr ⟨by decide +kernel, rfl⟩
theorem d_X10_line_93 : pm_i e_X10_line 93 .iload_n .iload 7 95 := Or.inr ⟨by decide +kernel, rfl⟩
theorem d_X10_line_95 : pm_kV e_X10_line 95 e_X10_left RX10 3 98 := ⟨135, by decide +kernel, rfl, fit_X10_line_X10_left, wm_885, Or.inl ⟨wm_883, wm_24⟩⟩
theorem d_X10_line_98 : pm_i e_X10_line 98 .istore_n .istore 5 100 := Or.inr ⟨by decide +kernel, rfl⟩
theorem d_X10_line_100 : pm_I e_X10_line 100 6 1 103 := ⟨1, by decide +kernel, by decide +kernel, rfl⟩
theorem d_X10_line_103 : pm_B e_X10_line 103 (fun z => .goto z) 35 106 := ⟨-68, by decide +kernel, by decide, rfl⟩
theorem d_X10_line_106 : pm_i e_X10_line 106 .iload_n .iload 5 108 := Or.inr ⟨by decide +kernel, rfl⟩
theorem d_X10_line_108 : pm_i e_X10_line 108 .aload_n .aload 0 109 := Or.inl ⟨0, by decide +kernel, rfl, rfl⟩
theorem d_X10_line_109 : pm_F e_X10_line 109 .getfield (RX10, "counts", "[I") 112 := ⟨23, by decide +kernel, rfl, Or.inl wm_744⟩
theorem d_X10_line_112 : pm_i e_X10_line 112 .iload_n .iload 1 113 := Or.inl ⟨1, by decide +kernel, rfl, rfl⟩
theorem d_X10_line_113 : pm_D e_X10_line 113 1 (.iaload) 114 := ⟨by decide +kernel, rfl⟩
theorem d_X10_line_114 : pm_D e_X10_line 114 1 (.idiv) 115 := ⟨by decide +kernel, rfl⟩
theorem d_X10_line_115 : pm_D e_X10_line 115 1 (.ireturn) 116 := ⟨by decide +kernel, rfl⟩
theorem d_X10_add_0 : pm_i e_X10_add 0 .lload_n .lload 3 1 := Or.inl ⟨3, by decide +kernel, rfl, rfl⟩
theorem d_X10_add_1 : pm_i e_X10_add 1 .lload_n .lload 7 3 := Or.inr ⟨by decide +kernel, rfl⟩
theorem d_X10_add_3 : pm_kS e_X10_add 3 e_X10_divisor 2 6 := ⟨92, by decide +kernel, rfl, fit_X10_add_X10_divisor, wm_925, Or.inl wm_924⟩
theorem d_X10_add_6 : pm_i e_X10_add 6 .lstore_n .lstore 9 8 := Or.inr ⟨by decide +kernel, rfl⟩
theorem d_X10_add_8 : pm_i e_X10_add 8 .lload_n .lload 1 9 := Or.inl ⟨1, by decide +kernel, rfl, rfl⟩
theorem d_X10_add_9 : pm_i e_X10_add 9 .lload_n .lload 7 11 := Or.inr ⟨by decide +kernel, rfl⟩
theorem d_X10_add_11 : pm_i e_X10_add 11 .lload_n .lload 9 13 := Or.inr ⟨by decide +kernel, rfl⟩
theorem d_X10_add_13 : pm_D e_X10_add 13 1 (.ldiv) 14 := ⟨by decide +kernel, rfl⟩
theorem d_X10_add_14 : pm_D e_X10_add 14 1 (.lmul) 15 := ⟨by decide +kernel, rfl⟩
theorem d_X10_add_15 : pm_i e_X10_add 15 .lload_n .lload 5 17 := Or.inr ⟨by decide +kernel, rfl⟩
theorem d_X10_add_17 : pm_i e_X10_add 17 .lload_n .lload 3 18 := Or.inl ⟨3, by decide +kernel, rfl, rfl⟩
theorem d_X10_add_18 : pm_i e_X10_add 18 .lload_n .lload 9 20 := Or.inr ⟨by decide +kernel, rfl⟩
theorem d_X10_add_20 : pm_D e_X10_add 20 1 (.ldiv) 21 := ⟨by decide +kernel, rfl⟩
theorem d_X10_add_21 : pm_D e_X10_add 21 1 (.lmul) 22 := ⟨by decide +kernel, rfl⟩
theorem d_X10_add_22 : pm_D e_X10_add 22 1 (.ladd) 23 := ⟨by decide +kernel, rfl⟩
theorem d_X10_add_23 : pm_i e_X10_add 23 .lstore_n .lstore 11 25 := Or.inr ⟨by decide +kernel, rfl⟩
theorem d_X10_add_25 : pm_i e_X10_add 25 .lload_n .lload 3 26 := Or.inl ⟨3, by decide +kernel, rfl, rfl⟩
theorem d_X10_add_26 : pm_i e_X10_add 26 .lload_n .lload 9 28 := Or.inr ⟨by decide +kernel, rfl⟩
theorem d_X10_add_28 : pm_D e_X10_add 28 1 (.ldiv) 29 := ⟨by decide +kernel, rfl⟩
theorem d_X10_add_29 : pm_i e_X10_add 29 .lload_n .lload 7 31 := Or.inr ⟨by decide +kernel, rfl⟩
theorem d_X10_add_31 : pm_D e_X10_add 31 1 (.lmul) 32 := ⟨by decide +kernel, rfl⟩
theorem d_X10_add_32 : pm_i e_X10_add 32 .lstore_n .lstore 13 34 := Or.inr ⟨by decide +kernel, rfl⟩
theorem d_X10_add_34 : pm_i e_X10_add 34 .lload_n .lload 11 36 := Or.inr ⟨by decide +kernel, rfl⟩
theorem d_X10_add_36 : pm_i e_X10_add 36 .lload_n .lload 13 38 := Or.inr ⟨by decide +kernel, rfl⟩
theorem d_X10_add_38 : pm_kS e_X10_add 38 e_X10_divisor 2 41 := ⟨92, by decide +kernel, rfl, fit_X10_add_X10_divisor, wm_925, Or.inl wm_924⟩
theorem d_X10_add_41 : pm_i e_X10_add 41 .lstore_n .lstore 15 43 := Or.inr ⟨by decide +kernel, rfl⟩
theorem d_X10_add_43 : pm_i e_X10_add 43 .aload_n .aload 0 44 := Or.inl ⟨0, by decide +kernel, rfl, rfl⟩
theorem d_X10_add_44 : pm_i e_X10_add 44 .lload_n .lload 11 46 := Or.inr ⟨by decide +kernel, rfl⟩
theorem d_X10_add_46 : pm_i e_X10_add 46 .lload_n .lload 15 48 := Or.inr ⟨by decide +kernel, rfl⟩
theorem d_X10_add_48 : pm_D e_X10_add 48 1 (.ldiv) 49 := ⟨by decide +kernel, rfl⟩
theorem d_X10_add_49 : pm_F e_X10_add 49 .putfield (RX10, "sumUp", "J") 52 := ⟨142, by decide +kernel, rfl, Or.inl wm_754⟩
theorem d_X10_add_52 : pm_i e_X10_add 52 .aload_n .aload 0 53 := Or.inl ⟨0, by decide +kernel, rfl, rfl⟩
theorem d_X10_add_53 : pm_i e_X10_add 53 .lload_n .lload 13 55 := Or.inr ⟨by decide +kernel, rfl⟩
theorem d_X10_add_55 : pm_i e_X10_add 55 .lload_n .lload 15 57 := Or.inr ⟨by decide +kernel, rfl⟩
theorem d_X10_add_57 : pm_D e_X10_add 57 1 (.ldiv) 58 := ⟨by decide +kernel, rfl⟩
theorem d_X10_add_58 : pm_F e_X10_add 58 .putfield (RX10, "sumLow", "J") 61 := ⟨145, by decide +kernel, rfl, Or.inl wm_755⟩
theorem d_X10_add_61 : pm_D e_X10_add 61 1 (.return_) 62 := ⟨by decide +kernel, rfl⟩
theorem d_X10_clearOdds_0 : pm_P e_X10_clearOdds 0 0 1 := Or.inl ⟨0, by decide +kernel, by decide +kernel, rfl⟩
theorem d_X10_clearOdds_1 : pm_i e_X10_clearOdds 1 .istore_n .istore 1 2 := Or.inl ⟨1, by decide +kernel, rfl, rfl⟩
theorem d_X10_clearOdds_2 : pm_i e_X10_clearOdds 2 .iload_n .iload 1 3 := Or.inl ⟨1, by decide +kernel, rfl, rfl⟩
theorem d_X10_clearOdds_3 : pm_P e_X10_clearOdds 3 31 5 := Or.inr <| Or.inl ⟨31, by decide +kernel, by decide +kernel, rfl⟩
theorem d_X10_clearOdds_5 : pm_B e_X10_clearOdds 5 (fun z => .if_icmp .ge z) 28 8 := ⟨23, by decide +kernel, by decide, rfl⟩
theorem d_X10_clearOdds_8 : pm_i e_X10_clearOdds 8 .aload_n .aload 0 9 := Or.inl ⟨0, by decide +kernel, rfl, rfl⟩
theorem d_X10_clearOdds_9 : pm_F e_X10_clearOdds 9 .getfield (RX10, "oddsUp", "[J") 12 := ⟨49, by decide +kernel, rfl, Or.inl wm_752⟩
theorem d_X10_clearOdds_12 : pm_i e_X10_clearOdds 12 .iload_n .iload 1 13 := Or.inl ⟨1, by decide +kernel, rfl, rfl⟩
theorem d_X10_clearOdds_13 : pm_PL e_X10_clearOdds 13 0 14 := Or.inl ⟨0, by decide +kernel, by decide +kernel, rfl⟩
theorem d_X10_clearOdds_14 : pm_D e_X10_clearOdds 14 1 (.lastore) 15 := ⟨by decide +kernel, rfl⟩
theorem d_X10_clearOdds_15 : pm_i e_X10_clearOdds 15 .aload_n .aload 0 16 := Or.inl ⟨0, by decide +kernel, rfl, rfl⟩
theorem d_X10_clearOdds_16 : pm_F e_X10_clearOdds 16 .getfield (RX10, "oddsLow", "[J") 19 := ⟨52, by decide +kernel, rfl, Or.inl wm_753⟩
theorem d_X10_clearOdds_19 : pm_i e_X10_clearOdds 19 .iload_n .iload 1 20 := Or.inl ⟨1, by decide +kernel, rfl, rfl⟩
theorem d_X10_clearOdds_20 : pm_PL e_X10_clearOdds 20 1 21 := Or.inl ⟨1, by decide +kernel, by decide +kernel, rfl⟩
theorem d_X10_clearOdds_21 : pm_D e_X10_clearOdds 21 1 (.lastore) 22 := ⟨by decide +kernel, rfl⟩
theorem d_X10_clearOdds_22 : pm_I e_X10_clearOdds 22 1 1 25 := ⟨1, by decide +kernel, by decide +kernel, rfl⟩
theorem d_X10_clearOdds_25 : pm_B e_X10_clearOdds 25 (fun z => .goto z) 2 28 := ⟨-23, by decide +kernel, by decide, rfl⟩
theorem d_X10_clearOdds_28 : pm_D e_X10_clearOdds 28 1 (.return_) 29 := ⟨by decide +kernel, rfl⟩
theorem d_X10_setOdds_0 : pm_i e_X10_setOdds 0 .aload_n .aload 0 1 := Or.inl ⟨0, by decide +kernel, rfl, rfl⟩
theorem d_X10_setOdds_1 : pm_kV e_X10_setOdds 1 e_X10_clearOdds RX10 0 4 := ⟨148, by decide +kernel, rfl, fit_X10_setOdds_X10_clearOdds, wm_916, Or.inl ⟨wm_914, wm_28⟩⟩
theorem d_X10_setOdds_4 : pm_i e_X10_setOdds 4 .aload_n .aload 0 5 := Or.inl ⟨0, by decide +kernel, rfl, rfl⟩
theorem d_X10_setOdds_5 : pm_i e_X10_setOdds 5 .iload_n .iload 1 6 := Or.inl ⟨1, by decide +kernel, rfl, rfl⟩
theorem d_X10_setOdds_6 : pm_kV e_X10_setOdds 6 e_X10_parts RX10 1 9 := ⟨114, by decide +kernel, rfl, fit_X10_setOdds_X10_parts, wm_873, Or.inl ⟨wm_871, wm_22⟩⟩
theorem d_X10_setOdds_9 : pm_B e_X10_setOdds 9 (fun z => .ifCond .ne z) 139 12 := ⟨130, by decide +kernel, by decide, rfl⟩
theorem d_X10_setOdds_12 : pm_i e_X10_setOdds 12 .aload_n .aload 0 13 := Or.inl ⟨0, by decide +kernel, rfl, rfl⟩
theorem d_X10_setOdds_13 : pm_F e_X10_setOdds 13 .getfield (RX10, "oddsUp", "[J") 16 := ⟨49, by decide +kernel, rfl, Or.inl wm_752⟩
theorem d_X10_setOdds_16 : pm_P e_X10_setOdds 16 6 18 := Or.inr <| Or.inl ⟨6, by decide +kernel, by decide +kernel, rfl⟩
theorem d_X10_setOdds_18 : pm_i e_X10_setOdds 18 .aload_n .aload 0 19 := Or.inl ⟨0, by decide +kernel, rfl, rfl⟩
theorem d_X10_setOdds_19 : pm_F e_X10_setOdds 19 .getfield (RX10, "kinds", "[I") 22 := ⟨17, by decide +kernel, rfl, Or.inl wm_742⟩
theorem d_X10_setOdds_22 : pm_i e_X10_setOdds 22 .iload_n .iload 1 23 := Or.inl ⟨1, by decide +kernel, rfl, rfl⟩
theorem d_X10_setOdds_23 : pm_D e_X10_setOdds 23 1 (.iaload) 24 := ⟨by decide +kernel, rfl⟩
theorem d_X10_setOdds_24 : pm_P e_X10_setOdds 24 2 25 := Or.inl ⟨2, by decide +kernel, by decide +kernel, rfl⟩
theorem d_X10_setOdds_25 : pm_B e_X10_setOdds 25 (fun z => .if_icmp .ne z) 32 28 := ⟨7, by decide +kernel, by decide, rfl⟩
theorem d_X10_setOdds_28 : pm_PL e_X10_setOdds 28 1 29 := Or.inl ⟨1, by decide +kernel, by decide +kernel, rfl⟩
theorem d_X10_setOdds_29 : pm_B e_X10_setOdds 29 (fun z => .goto z) 33 32 := ⟨4, by decide +kernel, by decide, rfl⟩
theorem d_X10_setOdds_32 : pm_PL e_X10_setOdds 32 0 33 := Or.inl ⟨0, by decide +kernel, by decide +kernel, rfl⟩
theorem d_X10_setOdds_33 : pm_D e_X10_setOdds 33 1 (.lastore) 34 := ⟨by decide +kernel, rfl⟩
theorem d_X10_setOdds_34 : pm_i e_X10_setOdds 34 .aload_n .aload 0 35 := Or.inl ⟨0, by decide +kernel, rfl, rfl⟩
theorem d_X10_setOdds_35 : pm_F e_X10_setOdds 35 .getfield (RX10, "oddsUp", "[J") 38 := ⟨49, by decide +kernel, rfl, Or.inl wm_752⟩
theorem d_X10_setOdds_38 : pm_P e_X10_setOdds 38 7 40 := Or.inr <| Or.inl ⟨7, by decide +kernel, by decide +kernel, rfl⟩
theorem d_X10_setOdds_40 : pm_i e_X10_setOdds 40 .aload_n .aload 0 41 := Or.inl ⟨0, by decide +kernel, rfl, rfl⟩
theorem d_X10_setOdds_41 : pm_F e_X10_setOdds 41 .getfield (RX10, "kinds", "[I") 44 := ⟨17, by decide +kernel, rfl, Or.inl wm_742⟩
theorem d_X10_setOdds_44 : pm_i e_X10_setOdds 44 .iload_n .iload 1 45 := Or.inl ⟨1, by decide +kernel, rfl, rfl⟩
theorem d_X10_setOdds_45 : pm_D e_X10_setOdds 45 1 (.iaload) 46 := ⟨by decide +kernel, rfl⟩
theorem d_X10_setOdds_46 : pm_P e_X10_setOdds 46 2 47 := Or.inl ⟨2, by decide +kernel, by decide +kernel, rfl⟩
theorem d_X10_setOdds_47 : pm_B e_X10_setOdds 47 (fun z => .if_icmp .ne z) 56 50 := ⟨9, by decide +kernel, by decide, rfl⟩
theorem d_X10_setOdds_50 : pm_PL e_X10_setOdds 50 3 53 := Or.inr ⟨151, by decide +kernel, wm_918, rfl⟩
theorem d_X10_setOdds_53 : pm_B e_X10_setOdds 53 (fun z => .goto z) 57 56 := ⟨4, by decide +kernel, by decide, rfl⟩
theorem d_X10_setOdds_56 : pm_PL e_X10_setOdds 56 1 57 := Or.inl ⟨1, by decide +kernel, by decide +kernel, rfl⟩
theorem d_X10_setOdds_57 : pm_D e_X10_setOdds 57 1 (.lastore) 58 := ⟨by decide +kernel, rfl⟩
theorem d_X10_setOdds_58 : pm_i e_X10_setOdds 58 .aload_n .aload 0 59 := Or.inl ⟨0, by decide +kernel, rfl, rfl⟩
theorem d_X10_setOdds_59 : pm_F e_X10_setOdds 59 .getfield (RX10, "oddsUp", "[J") 62 := ⟨49, by decide +kernel, rfl, Or.inl wm_752⟩
theorem d_X10_setOdds_62 : pm_P e_X10_setOdds 62 8 64 := Or.inr <| Or.inl ⟨8, by decide +kernel, by decide +kernel, rfl⟩
theorem d_X10_setOdds_64 : pm_i e_X10_setOdds 64 .aload_n .aload 0 65 := Or.inl ⟨0, by decide +kernel, rfl, rfl⟩
theorem d_X10_setOdds_65 : pm_F e_X10_setOdds 65 .getfield (RX10, "kinds", "[I") 68 := ⟨17, by decide +kernel, rfl, Or.inl wm_742⟩
theorem d_X10_setOdds_68 : pm_i e_X10_setOdds 68 .iload_n .iload 1 69 := Or.inl ⟨1, by decide +kernel, rfl, rfl⟩
theorem d_X10_setOdds_69 : pm_D e_X10_setOdds 69 1 (.iaload) 70 := ⟨by decide +kernel, rfl⟩
theorem d_X10_setOdds_70 : pm_P e_X10_setOdds 70 2 71 := Or.inl ⟨2, by decide +kernel, by decide +kernel, rfl⟩
theorem d_X10_setOdds_71 : pm_B e_X10_setOdds 71 (fun z => .if_icmp .ne z) 80 74 := ⟨9, by decide +kernel, by decide, rfl⟩
theorem d_X10_setOdds_74 : pm_PL e_X10_setOdds 74 3 77 := Or.inr ⟨151, by decide +kernel, wm_918, rfl⟩
theorem d_X10_setOdds_77 : pm_B e_X10_setOdds 77 (fun z => .goto z) 81 80 := ⟨4, by decide +kernel, by decide, rfl⟩
theorem d_X10_setOdds_80 : pm_PL e_X10_setOdds 80 0 81 := Or.inl ⟨0, by decide +kernel, by decide +kernel, rfl⟩
theorem d_X10_setOdds_81 : pm_D e_X10_setOdds 81 1 (.lastore) 82 := ⟨by decide +kernel, rfl⟩
theorem d_X10_setOdds_82 : pm_i e_X10_setOdds 82 .aload_n .aload 0 83 := Or.inl ⟨0, by decide +kernel, rfl, rfl⟩
theorem d_X10_setOdds_83 : pm_F e_X10_setOdds 83 .getfield (RX10, "oddsUp", "[J") 86 := ⟨49, by decide +kernel, rfl, Or.inl wm_752⟩
theorem d_X10_setOdds_86 : pm_P e_X10_setOdds 86 9 88 := Or.inr <| Or.inl ⟨9, by decide +kernel, by decide +kernel, rfl⟩
theorem d_X10_setOdds_88 : pm_i e_X10_setOdds 88 .aload_n .aload 0 89 := Or.inl ⟨0, by decide +kernel, rfl, rfl⟩
theorem d_X10_setOdds_89 : pm_F e_X10_setOdds 89 .getfield (RX10, "kinds", "[I") 92 := ⟨17, by decide +kernel, rfl, Or.inl wm_742⟩
theorem d_X10_setOdds_92 : pm_i e_X10_setOdds 92 .iload_n .iload 1 93 := Or.inl ⟨1, by decide +kernel, rfl, rfl⟩
theorem d_X10_setOdds_93 : pm_D e_X10_setOdds 93 1 (.iaload) 94 := ⟨by decide +kernel, rfl⟩
theorem d_X10_setOdds_94 : pm_P e_X10_setOdds 94 2 95 := Or.inl ⟨2, by decide +kernel, by decide +kernel, rfl⟩
theorem d_X10_setOdds_95 : pm_B e_X10_setOdds 95 (fun z => .if_icmp .ne z) 102 98 := ⟨7, by decide +kernel, by decide, rfl⟩
theorem d_X10_setOdds_98 : pm_PL e_X10_setOdds 98 1 99 := Or.inl ⟨1, by decide +kernel, by decide +kernel, rfl⟩
theorem d_X10_setOdds_99 : pm_B e_X10_setOdds 99 (fun z => .goto z) 103 102 := ⟨4, by decide +kernel, by decide, rfl⟩
theorem d_X10_setOdds_102 : pm_PL e_X10_setOdds 102 0 103 := Or.inl ⟨0, by decide +kernel, by decide +kernel, rfl⟩
theorem d_X10_setOdds_103 : pm_D e_X10_setOdds 103 1 (.lastore) 104 := ⟨by decide +kernel, rfl⟩
theorem d_X10_setOdds_104 : pm_P e_X10_setOdds 104 6 106 := Or.inr <| Or.inl ⟨6, by decide +kernel, by decide +kernel, rfl⟩
theorem d_X10_setOdds_106 : pm_i e_X10_setOdds 106 .istore_n .istore 2 107 := Or.inl ⟨2, by decide +kernel, rfl, rfl⟩
theorem d_X10_setOdds_107 : pm_i e_X10_setOdds 107 .iload_n .iload 2 108 := Or.inl ⟨2, by decide +kernel, rfl, rfl⟩
theorem d_X10_setOdds_108 : pm_P e_X10_setOdds 108 10 110 := Or.inr <| Or.inl ⟨10, by decide +kernel, by decide +kernel, rfl⟩
theorem d_X10_setOdds_110 : pm_B e_X10_setOdds 110 (fun z => .if_icmp .ge z) 138 113 := ⟨28, by decide +kernel, by decide, rfl⟩
theorem d_X10_setOdds_113 : pm_i e_X10_setOdds 113 .aload_n .aload 0 114 := Or.inl ⟨0, by decide +kernel, rfl, rfl⟩
theorem d_X10_setOdds_114 : pm_F e_X10_setOdds 114 .getfield (RX10, "kinds", "[I") 117 := ⟨17, by decide +kernel, rfl, Or.inl wm_742⟩
theorem d_X10_setOdds_117 : pm_i e_X10_setOdds 117 .iload_n .iload 1 118 := Or.inl ⟨1, by decide +kernel, rfl, rfl⟩
theorem d_X10_setOdds_118 : pm_D e_X10_setOdds 118 1 (.iaload) 119 := ⟨by decide +kernel, rfl⟩
theorem d_X10_setOdds_119 : pm_P e_X10_setOdds 119 2 120 := Or.inl ⟨2, by decide +kernel, by decide +kernel, rfl⟩
theorem d_X10_setOdds_120 : pm_B e_X10_setOdds 120 (fun z => .if_icmp .ne z) 138 123 := ⟨18, by decide +kernel, by decide, rfl⟩
theorem d_X10_setOdds_123 : pm_i e_X10_setOdds 123 .aload_n .aload 0 124 := Or.inl ⟨0, by decide +kernel, rfl, rfl⟩
theorem d_X10_setOdds_124 : pm_F e_X10_setOdds 124 .getfield (RX10, "oddsLow", "[J") 127 := ⟨52, by decide +kernel, rfl, Or.inl wm_753⟩
theorem d_X10_setOdds_127 : pm_i e_X10_setOdds 127 .iload_n .iload 2 128 := Or.inl ⟨2, by decide +kernel, rfl, rfl⟩
theorem d_X10_setOdds_128 : pm_PL e_X10_setOdds 128 8 131 := Or.inr ⟨153, by decide +kernel, wm_919, rfl⟩
theorem d_X10_setOdds_131 : pm_D e_X10_setOdds 131 1 (.lastore) 132 := ⟨by decide +kernel, rfl⟩
theorem d_X10_setOdds_132 : pm_I e_X10_setOdds 132 2 1 135 := ⟨1, by decide +kernel, by decide +kernel, rfl⟩
theorem d_X10_setOdds_135 : pm_B e_X10_setOdds 135 (fun z => .goto z) 107 138 := ⟨-28, by decide +kernel, by decide, rfl⟩
theorem d_X10_setOdds_138 : pm_D e_X10_setOdds 138 1 (.return_) 139 := ⟨by decide +kernel, rfl⟩
theorem d_X10_setOdds_139 : pm_P e_X10_setOdds 139 0 140 := Or.inl ⟨0, by decide +kernel, by decide +kernel, rfl⟩
theorem d_X10_setOdds_140 : pm_i e_X10_setOdds 140 .istore_n .istore 2 141 := Or.inl ⟨2, by decide +kernel, rfl, rfl⟩
theorem d_X10_setOdds_141 : pm_i e_X10_setOdds 141 .iload_n .iload 2 142 := Or.inl ⟨2, by decide +kernel, rfl, rfl⟩
theorem d_X10_setOdds_142 : pm_P e_X10_setOdds 142 60 144 := Or.inr <| Or.inl ⟨60, by decide +kernel, by decide +kernel, rfl⟩
theorem d_X10_setOdds_144 : pm_B e_X10_setOdds 144 (fun z => .if_icmp .gt z) 181 147 := ⟨37, by decide +kernel, by decide, rfl⟩
theorem d_X10_setOdds_147 : pm_i e_X10_setOdds 147 .aload_n .aload 0 148 := Or.inl ⟨0, by decide +kernel, rfl, rfl⟩
theorem d_X10_setOdds_148 : pm_F e_X10_setOdds 148 .getfield (RX10, "ups", "[J") 151 := ⟨36, by decide +kernel, rfl, Or.inl wm_748⟩
theorem d_X10_setOdds_151 : pm_i e_X10_setOdds 151 .iload_n .iload 2 152 := Or.inl ⟨2, by decide +kernel, rfl, rfl⟩
theorem d_X10_setOdds_152 : pm_i e_X10_setOdds 152 .iload_n .iload 2 153 := Or.inl ⟨2, by decide +kernel, rfl, rfl⟩
theorem d_X10_setOdds_153 : pm_i e_X10_setOdds 153 .aload_n .aload 0 154 := Or.inl ⟨0, by decide +kernel, rfl, rfl⟩
theorem d_X10_setOdds_154 : pm_F e_X10_setOdds 154 .getfield (RX10, "sticks", "[I") 157 := ⟨20, by decide +kernel, rfl, Or.inl wm_743⟩
theorem d_X10_setOdds_157 : pm_i e_X10_setOdds 157 .iload_n .iload 1 158 := Or.inl ⟨1, by decide +kernel, rfl, rfl⟩
theorem d_X10_setOdds_158 : pm_D e_X10_setOdds 158 1 (.iaload) 159 := ⟨by decide +kernel, rfl⟩
theorem d_X10_setOdds_159 : pm_B e_X10_setOdds 159 (fun z => .if_icmp .ne z) 166 162 := ⟨7, by decide +kernel, by decide, rfl⟩
theorem d_X10_setOdds_162 : pm_PL e_X10_setOdds 162 1 163 := Or.inl ⟨1, by decide +kernel, by decide +kernel, rfl⟩
theorem d_X10_setOdds_163 : pm_B e_X10_setOdds 163 (fun z => .goto z) 167 166 := ⟨4, by decide +kernel, by decide, rfl⟩
theorem d_X10_setOdds_166 : pm_PL e_X10_setOdds 166 0 167 := Or.inl ⟨0, by decide +kernel, by decide +kernel, rfl⟩
theorem d_X10_setOdds_167 : pm_D e_X10_setOdds 167 1 (.lastore) 168 := ⟨by decide +kernel, rfl⟩
theorem d_X10_setOdds_168 : pm_i e_X10_setOdds 168 .aload_n .aload 0 169 := Or.inl ⟨0, by decide +kernel, rfl, rfl⟩
theorem d_X10_setOdds_169 : pm_F e_X10_setOdds 169 .getfield (RX10, "lowers", "[J") 172 := ⟨40, by decide +kernel, rfl, Or.inl wm_749⟩
theorem d_X10_setOdds_172 : pm_i e_X10_setOdds 172 .iload_n .iload 2 173 := Or.inl ⟨2, by decide +kernel, rfl, rfl⟩
theorem d_X10_setOdds_173 : pm_PL e_X10_setOdds 173 1 174 := Or.inl ⟨1, by decide +kernel, by decide +kernel, rfl⟩
theorem d_X10_setOdds_174 : pm_D e_X10_setOdds 174 1 (.lastore) 175 := ⟨by decide +kernel, rfl⟩
theorem d_X10_setOdds_175 : pm_I e_X10_setOdds 175 2 1 178 := ⟨1, by decide +kernel, by decide +kernel, rfl⟩
theorem d_X10_setOdds_178 : pm_B e_X10_setOdds 178 (fun z => .goto z) 141 181 := ⟨-37, by decide +kernel, by decide, rfl⟩
theorem d_X10_setOdds_181 : pm_P e_X10_setOdds 181 0 182 := Or.inl ⟨0, by decide +kernel, by decide +kernel, rfl⟩
theorem d_X10_setOdds_182 : pm_i e_X10_setOdds 182 .istore_n .istore 2 183 := Or.inl ⟨2, by decide +kernel, rfl, rfl⟩
theorem d_X10_setOdds_183 : pm_i e_X10_setOdds 183 .iload_n .iload 2 184 := Or.inl ⟨2, by decide +kernel, rfl, rfl⟩
theorem d_X10_setOdds_184 : pm_P e_X10_setOdds 184 3 185 := Or.inl ⟨3, by decide +kernel, by decide +kernel, rfl⟩
theorem d_X10_setOdds_185 : pm_B e_X10_setOdds 185 (fun z => .if_icmp .ge z) 199 188 := ⟨14, by decide +kernel, by decide, rfl⟩
theorem d_X10_setOdds_188 : pm_i e_X10_setOdds 188 .aload_n .aload 0 189 := Or.inl ⟨0, by decide +kernel, rfl, rfl⟩
theorem d_X10_setOdds_189 : pm_i e_X10_setOdds 189 .iload_n .iload 1 190 := Or.inl ⟨1, by decide +kernel, rfl, rfl⟩
theorem d_X10_setOdds_190 : pm_kV e_X10_setOdds 190 e_X10_partAll RX10 1 193 := ⟨155, by decide +kernel, rfl, fit_X10_setOdds_X10_partAll, wm_922, Or.inl ⟨wm_920, wm_29⟩⟩
theorem d_X10_setOdds_193 : pm_I e_X10_setOdds 193 2 1 196 := ⟨1, by decide +kernel, by decide +kernel, rfl⟩
theorem d_X10_setOdds_196 : pm_B e_X10_setOdds 196 (fun z => .goto z) 183 199 := ⟨-13, by decide +kernel, by decide, rfl⟩
theorem d_X10_setOdds_199 : pm_P e_X10_setOdds 199 0 200 := Or.inl ⟨0, by decide +kernel, by decide +kernel, rfl⟩
theorem d_X10_setOdds_200 : pm_i e_X10_setOdds 200 .istore_n .istore 2 201 := Or.inl ⟨2, by decide +kernel, rfl, rfl⟩
theorem d_X10_setOdds_201 : pm_i e_X10_setOdds 201 .iload_n .iload 2 202 := Or.inl ⟨2, by decide +kernel, rfl, rfl⟩
theorem d_X10_setOdds_202 : pm_P e_X10_setOdds 202 60 204 := Or.inr <| Or.inl ⟨60, by decide +kernel, by decide +kernel, rfl⟩
theorem d_X10_setOdds_204 : pm_B e_X10_setOdds 204 (fun z => .if_icmp .gt z) 270 207 := ⟨66, by decide +kernel, by decide, rfl⟩
theorem d_X10_setOdds_207 : pm_i e_X10_setOdds 207 .iload_n .iload 2 208 := Or.inl ⟨2, by decide +kernel, rfl, rfl⟩
theorem d_X10_setOdds_208 : pm_i e_X10_setOdds 208 .aload_n .aload 0 209 := Or.inl ⟨0, by decide +kernel, rfl, rfl⟩
theorem d_X10_setOdds_209 : pm_F e_X10_setOdds 209 .getfield (RX10, "counts", "[I") 212 := ⟨23, by decide +kernel, rfl, Or.inl wm_744⟩
theorem d_X10_setOdds_212 : pm_i e_X10_setOdds 212 .iload_n .iload 1 213 := Or.inl ⟨1, by decide +kernel, rfl, rfl⟩
theorem d_X10_setOdds_213 : pm_D e_X10_setOdds 213 1 (.iaload) 214 := ⟨by decide +kernel, rfl⟩
theorem d_X10_setOdds_214 : pm_D e_X10_setOdds 214 1 (.idiv) 215 := ⟨by decide +kernel, rfl⟩
theorem d_X10_setOdds_215 : pm_i e_X10_setOdds 215 .istore_n .istore 3 216 := Or.inl ⟨3, by decide +kernel, rfl, rfl⟩
theorem d_X10_setOdds_216 : pm_i e_X10_setOdds 216 .aload_n .aload 0 217 := Or.inl ⟨0, by decide +kernel, rfl, rfl⟩
theorem d_X10_setOdds_217 : pm_i e_X10_setOdds 217 .aload_n .aload 0 218 := Or.inl ⟨0, by decide +kernel, rfl, rfl⟩
theorem d_X10_setOdds_218 : pm_F e_X10_setOdds 218 .getfield (RX10, "oddsUp", "[J") 221 := ⟨49, by decide +kernel, rfl, Or.inl wm_752⟩
theorem d_X10_setOdds_221 : pm_i e_X10_setOdds 221 .iload_n .iload 3 222 := Or.inl ⟨3, by decide +kernel, rfl, rfl⟩
theorem d_X10_setOdds_222 : pm_D e_X10_setOdds 222 1 (.laload) 223 := ⟨by decide +kernel, rfl⟩
theorem d_X10_setOdds_223 : pm_i e_X10_setOdds 223 .aload_n .aload 0 224 := Or.inl ⟨0, by decide +kernel, rfl, rfl⟩
theorem d_X10_setOdds_224 : pm_F e_X10_setOdds 224 .getfield (RX10, "oddsLow", "[J") 227 := ⟨52, by decide +kernel, rfl, Or.inl wm_753⟩
theorem d_X10_setOdds_227 : pm_i e_X10_setOdds 227 .iload_n .iload 3 228 := Or.inl ⟨3, by decide +kernel, rfl, rfl⟩
theorem d_X10_setOdds_228 : pm_D e_X10_setOdds 228 1 (.laload) 229 := ⟨by decide +kernel, rfl⟩
theorem d_X10_setOdds_229 : pm_i e_X10_setOdds 229 .aload_n .aload 0 230 := Or.inl ⟨0, by decide +kernel, rfl, rfl⟩
theorem d_X10_setOdds_230 : pm_F e_X10_setOdds 230 .getfield (RX10, "ups", "[J") 233 := ⟨36, by decide +kernel, rfl, Or.inl wm_748⟩
theorem d_X10_setOdds_233 : pm_i e_X10_setOdds 233 .iload_n .iload 2 234 := Or.inl ⟨2, by decide +kernel, rfl, rfl⟩
theorem d_X10_setOdds_234 : pm_D e_X10_setOdds 234 1 (.laload) 235 := ⟨by decide +kernel, rfl⟩
theorem d_X10_setOdds_235 : pm_i e_X10_setOdds 235 .aload_n .aload 0 236 := Or.inl ⟨0, by decide +kernel, rfl, rfl⟩
theorem d_X10_setOdds_236 : pm_F e_X10_setOdds 236 .getfield (RX10, "lowers", "[J") 239 := ⟨40, by decide +kernel, rfl, Or.inl wm_749⟩
theorem d_X10_setOdds_239 : pm_i e_X10_setOdds 239 .iload_n .iload 2 240 := Or.inl ⟨2, by decide +kernel, rfl, rfl⟩
theorem d_X10_setOdds_240 : pm_D e_X10_setOdds 240 1 (.laload) 241 := ⟨by decide +kernel, rfl⟩
theorem d_X10_setOdds_241 : pm_kV e_X10_setOdds 241 e_X10_add RX10 4 244 := ⟨159, by decide +kernel, rfl, fit_X10_setOdds_X10_add, wm_929, Or.inl ⟨wm_927, wm_30⟩⟩
theorem d_X10_setOdds_244 : pm_i e_X10_setOdds 244 .aload_n .aload 0 245 := Or.inl ⟨0, by decide +kernel, rfl, rfl⟩
theorem d_X10_setOdds_245 : pm_F e_X10_setOdds 245 .getfield (RX10, "oddsUp", "[J") 248 := ⟨49, by decide +kernel, rfl, Or.inl wm_752⟩
theorem d_X10_setOdds_248 : pm_i e_X10_setOdds 248 .iload_n .iload 3 249 := Or.inl ⟨3, by decide +kernel, rfl, rfl⟩
theorem d_X10_setOdds_249 : pm_i e_X10_setOdds 249 .aload_n .aload 0 250 := Or.inl ⟨0, by decide +kernel, rfl, rfl⟩
theorem d_X10_setOdds_250 : pm_F e_X10_setOdds 250 .getfield (RX10, "sumUp", "J") 253 := ⟨142, by decide +kernel, rfl, Or.inl wm_754⟩
theorem d_X10_setOdds_253 : pm_D e_X10_setOdds 253 1 (.lastore) 254 := ⟨by decide +kernel, rfl⟩
theorem d_X10_setOdds_254 : pm_i e_X10_setOdds 254 .aload_n .aload 0 255 := Or.inl ⟨0, by decide +kernel, rfl, rfl⟩
theorem d_X10_setOdds_255 : pm_F e_X10_setOdds 255 .getfield (RX10, "oddsLow", "[J") 258 := ⟨52, by decide +kernel, rfl, Or.inl wm_753⟩
theorem d_X10_setOdds_258 : pm_i e_X10_setOdds 258 .iload_n .iload 3 259 := Or.inl ⟨3, by decide +kernel, rfl, rfl⟩
theorem d_X10_setOdds_259 : pm_i e_X10_setOdds 259 .aload_n .aload 0 260 := Or.inl ⟨0, by decide +kernel, rfl, rfl⟩
theorem d_X10_setOdds_260 : pm_F e_X10_setOdds 260 .getfield (RX10, "sumLow", "J") 263 := ⟨145, by decide +kernel, rfl, Or.inl wm_755⟩
theorem d_X10_setOdds_263 : pm_D e_X10_setOdds 263 1 (.lastore) 264 := ⟨by decide +kernel, rfl⟩
theorem d_X10_setOdds_264 : pm_I e_X10_setOdds 264 2 1 267 := ⟨1, by decide +kernel, by decide +kernel, rfl⟩
theorem d_X10_setOdds_267 : pm_B e_X10_setOdds 267 (fun z => .goto z) 201 270 := ⟨-66, by decide +kernel, by decide, rfl⟩
theorem d_X10_setOdds_270 : pm_D e_X10_setOdds 270 1 (.return_) 271 := ⟨by decide +kernel, rfl⟩
theorem d_X10_partAll_0 : pm_P e_X10_partAll 0 0 1 := Or.inl ⟨0, by decide +kernel, by decide +kernel, rfl⟩
theorem d_X10_partAll_1 : pm_i e_X10_partAll 1 .istore_n .istore 2 2 := Or.inl ⟨2, by decide +kernel, rfl, rfl⟩
theorem d_X10_partAll_2 : pm_i e_X10_partAll 2 .iload_n .iload 2 3 := Or.inl ⟨2, by decide +kernel, rfl, rfl⟩
theorem d_X10_partAll_3 : pm_P e_X10_partAll 3 60 5 := Or.inr <| Or.inl ⟨60, by decide +kernel, by decide +kernel, rfl⟩
theorem d_X10_partAll_5 : pm_B e_X10_partAll 5 (fun z => .if_icmp .gt z) 28 8 := ⟨23, by decide +kernel, by decide, rfl⟩
theorem d_X10_partAll_8 : pm_i e_X10_partAll 8 .aload_n .aload 0 9 := Or.inl ⟨0, by decide +kernel, rfl, rfl⟩
theorem d_X10_partAll_9 : pm_F e_X10_partAll 9 .getfield (RX10, "nextUps", "[J") 12 := ⟨43, by decide +kernel, rfl, Or.inl wm_750⟩
theorem d_X10_partAll_12 : pm_i e_X10_partAll 12 .iload_n .iload 2 13 := Or.inl ⟨2, by decide +kernel, rfl, rfl⟩
theorem d_X10_partAll_13 : pm_PL e_X10_partAll 13 0 14 := Or.inl ⟨0, by decide +kernel, by decide +kernel, rfl⟩
theorem d_X10_partAll_14 : pm_D e_X10_partAll 14 1 (.lastore) 15 := ⟨by decide +kernel, rfl⟩
theorem d_X10_partAll_15 : pm_i e_X10_partAll 15 .aload_n .aload 0 16 := Or.inl ⟨0, by decide +kernel, rfl, rfl⟩
theorem d_X10_partAll_16 : pm_F e_X10_partAll 16 .getfield (RX10, "nextLowers", "[J") 19 := ⟨46, by decide +kernel, rfl, Or.inl wm_751⟩
theorem d_X10_partAll_19 : pm_i e_X10_partAll 19 .iload_n .iload 2 20 := Or.inl ⟨2, by decide +kernel, rfl, rfl⟩
theorem d_X10_partAll_20 : pm_PL e_X10_partAll 20 1 21 := Or.inl ⟨1, by decide +kernel, by decide +kernel, rfl⟩
theorem d_X10_partAll_21 : pm_D e_X10_partAll 21 1 (.lastore) 22 := ⟨by decide +kernel, rfl⟩
theorem d_X10_partAll_22 : pm_I e_X10_partAll 22 2 1 25 := ⟨1, by decide +kernel, by decide +kernel, rfl⟩
theorem d_X10_partAll_25 : pm_B e_X10_partAll 25 (fun z => .goto z) 2 28 := ⟨-23, by decide +kernel, by decide, rfl⟩
theorem d_X10_partAll_28 : pm_P e_X10_partAll 28 0 29 := Or.inl ⟨0, by decide +kernel, by decide +kernel, rfl⟩
theorem d_X10_partAll_29 : pm_i e_X10_partAll 29 .istore_n .istore 2 30 := Or.inl ⟨2, by decide +kernel, rfl, rfl⟩
theorem d_X10_partAll_30 : pm_i e_X10_partAll 30 .iload_n .iload 2 31 := Or.inl ⟨2, by decide +kernel, rfl, rfl⟩
theorem d_X10_partAll_31 : pm_P e_X10_partAll 31 60 33 := Or.inr <| Or.inl ⟨60, by decide +kernel, by decide +kernel, rfl⟩
theorem d_X10_partAll_33 : pm_B e_X10_partAll 33 (fun z => .if_icmp .gt z) 184 36 := ⟨151, by decide +kernel, by decide, rfl⟩
theorem d_X10_partAll_36 : pm_i e_X10_partAll 36 .aload_n .aload 0 37 := Or.inl ⟨0, by decide +kernel, rfl, rfl⟩
theorem d_X10_partAll_37 : pm_F e_X10_partAll 37 .getfield (RX10, "ups", "[J") 40 := ⟨36, by decide +kernel, rfl, Or.inl wm_748⟩
theorem d_X10_partAll_40 : pm_i e_X10_partAll 40 .iload_n .iload 2 41 := Or.inl ⟨2, by decide +kernel, rfl, rfl⟩
theorem d_X10_partAll_41 : pm_D e_X10_partAll 41 1 (.laload) 42 := ⟨by decide +kernel, rfl⟩
theorem d_X10_partAll_42 : pm_PL e_X10_partAll 42 0 43 := Or.inl ⟨0, by decide +kernel, by decide +kernel, rfl⟩
theorem d_X10_partAll_43 : pm_D e_X10_partAll 43 1 (.lcmp) 44 := ⟨by decide +kernel, rfl⟩
theorem d_X10_partAll_44 : pm_B e_X10_partAll 44 (fun z => .ifCond .le z) 178 47 := ⟨134, by decide +kernel, by decide, rfl⟩
theorem d_X10_partAll_47 : pm_i e_X10_partAll 47 .iload_n .iload 2 48 := Or.inl ⟨2, by decide +kernel, rfl, rfl⟩
theorem d_X10_partAll_48 : pm_P e_X10_partAll 48 2 49 := Or.inl ⟨2, by decide +kernel, by decide +kernel, rfl⟩
theorem d_X10_partAll_49 : pm_B e_X10_partAll 49 (fun z => .if_icmp .ge z) 56 52 := ⟨7, by decide +kernel, by decide, rfl⟩
theorem d_X10_partAll_52 : pm_P e_X10_partAll 52 1 53 := Or.inl ⟨1, by decide +kernel, by decide +kernel, rfl⟩
theorem d_X10_partAll_53 : pm_B e_X10_partAll 53 (fun z => .goto z) 62 56 := ⟨9, by decide +kernel, by decide, rfl⟩
theorem d_X10_partAll_56 : pm_i e_X10_partAll 56 .aload_n .aload 0 57 := Or.inl ⟨0, by decide +kernel, rfl, rfl⟩
theorem d_X10_partAll_57 : pm_i e_X10_partAll 57 .iload_n .iload 1 58 := Or.inl ⟨1, by decide +kernel, rfl, rfl⟩
theorem d_X10_partAll_58 : pm_i e_X10_partAll 58 .iload_n .iload 2 59 := Or.inl ⟨2, by decide +kernel, rfl, rfl⟩
theorem d_X10_partAll_59 : pm_kV e_X10_partAll 59 e_X10_places RX10 2 62 := ⟨139, by decide +kernel, rfl, fit_X10_partAll_X10_places, wm_892, Or.inl ⟨wm_890, wm_25⟩⟩
theorem d_X10_partAll_62 : pm_i e_X10_partAll 62 .istore_n .istore 3 63 := Or.inl ⟨3, by decide +kernel, rfl, rfl⟩
theorem d_X10_partAll_63 : pm_P e_X10_partAll 63 0 64 := Or.inl ⟨0, by decide +kernel, by decide +kernel, rfl⟩
theorem d_X10_partAll_64 : pm_i e_X10_partAll 64 .istore_n .istore 4 66 := Or.inr ⟨by decide +kernel, rfl⟩
theorem d_X10_partAll_66 : pm_i e_X10_partAll 66 .iload_n .iload 4 68 := Or.inr ⟨by decide +kernel, rfl⟩
theorem d_X10_partAll_68 : pm_i e_X10_partAll 68 .iload_n .iload 3 69 := Or.inl ⟨3, by decide +kernel, rfl, rfl⟩
theorem d_X10_partAll_69 : pm_B e_X10_partAll 69 (fun z => .if_icmp .ge z) 178 72 := ⟨109, by decide +kernel, by decide, rfl⟩
theorem d_X10_partAll_72 : pm_i e_X10_partAll 72 .iload_n .iload 2 73 := Or.inl ⟨2, by decide +kernel, rfl, rfl⟩
theorem d_X10_partAll_73 : pm_P e_X10_partAll 73 2 74 := Or.inl ⟨2, by decide +kernel, by decide +kernel, rfl⟩
theorem d_X10_partAll_74 : pm_B e_X10_partAll 74 (fun z => .if_icmp .ge z) 81 77 := ⟨7, by decide +kernel, by decide, rfl⟩
theorem d_X10_partAll_77 : pm_i e_X10_partAll 77 .iload_n .iload 2 78 := Or.inl ⟨2, by decide +kernel, rfl, rfl⟩
theorem d_X10_partAll_78 : pm_B e_X10_partAll 78 (fun z => .goto z) 96 81 := ⟨18, by decide +kernel, by decide, rfl⟩
theorem d_X10_partAll_81 : pm_i e_X10_partAll 81 .aload_n .aload 0 82 := Or.inl ⟨0, by decide +kernel, rfl, rfl⟩
theorem d_X10_partAll_82 : pm_i e_X10_partAll 82 .iload_n .iload 1 83 := Or.inl ⟨1, by decide +kernel, rfl, rfl⟩
theorem d_X10_partAll_83 : pm_i e_X10_partAll 83 .iload_n .iload 2 84 := Or.inl ⟨2, by decide +kernel, rfl, rfl⟩
theorem d_X10_partAll_84 : pm_i e_X10_partAll 84 .aload_n .aload 0 85 := Or.inl ⟨0, by decide +kernel, rfl, rfl⟩
theorem d_X10_partAll_85 : pm_i e_X10_partAll 85 .iload_n .iload 1 86 := Or.inl ⟨1, by decide +kernel, rfl, rfl⟩
theorem d_X10_partAll_86 : pm_i e_X10_partAll 86 .iload_n .iload 2 87 := Or.inl ⟨2, by decide +kernel, rfl, rfl⟩
theorem d_X10_partAll_87 : pm_kV e_X10_partAll 87 e_X10_first RX10 2 90 := ⟨128, by decide +kernel, rfl, fit_X10_partAll_X10_first, wm_896, Or.inl ⟨wm_894, wm_26⟩⟩
theorem d_X10_partAll_90 : pm_i e_X10_partAll 90 .iload_n .iload 4 92 := Or.inr ⟨by decide +kernel, rfl⟩
theorem d_X10_partAll_92 : pm_D e_X10_partAll 92 1 (.iadd) 93 := ⟨by decide +kernel, rfl⟩
theorem d_X10_partAll_93 : pm_kV e_X10_partAll 93 e_X10_left RX10 3 96 := ⟨135, by decide +kernel, rfl, fit_X10_partAll_X10_left, wm_885, Or.inl ⟨wm_883, wm_24⟩⟩
theorem d_X10_partAll_96 : pm_i e_X10_partAll 96 .istore_n .istore 5 98 := Or.inr ⟨by decide +kernel, rfl⟩
theorem d_X10_partAll_98 : pm_i e_X10_partAll 98 .aload_n .aload 0 99 := Or.inl ⟨0, by decide +kernel, rfl, rfl⟩
theorem d_X10_partAll_99 : pm_F e_X10_partAll 99 .getfield (RX10, "ups", "[J") 102 := ⟨36, by decide +kernel, rfl, Or.inl wm_748⟩
theorem d_X10_partAll_102 : pm_i e_X10_partAll 102 .iload_n .iload 2 103 := Or.inl ⟨2, by decide +kernel, rfl, rfl⟩
theorem d_X10_partAll_103 : pm_D e_X10_partAll 103 1 (.laload) 104 := ⟨by decide +kernel, rfl⟩
theorem d_X10_partAll_104 : pm_i e_X10_partAll 104 .iload_n .iload 3 105 := Or.inl ⟨3, by decide +kernel, rfl, rfl⟩
theorem d_X10_partAll_105 : pm_D e_X10_partAll 105 1 (.i2l) 106 := ⟨by decide +kernel, rfl⟩
theorem d_X10_partAll_106 : pm_kS e_X10_partAll 106 e_X10_divisor 2 109 := ⟨92, by decide +kernel, rfl, fit_X10_partAll_X10_divisor, wm_925, Or.inl wm_924⟩
theorem d_X10_partAll_109 : pm_i e_X10_partAll 109 .lstore_n .lstore 6 111 := Or.inr ⟨by decide +kernel, rfl⟩
theorem d_X10_partAll_111 : pm_i e_X10_partAll 111 .aload_n .aload 0 112 := Or.inl ⟨0, by decide +kernel, rfl, rfl⟩
theorem d_X10_partAll_112 : pm_i e_X10_partAll 112 .aload_n .aload 0 113 := Or.inl ⟨0, by decide +kernel, rfl, rfl⟩
theorem d_X10_partAll_113 : pm_F e_X10_partAll 113 .getfield (RX10, "nextUps", "[J") 116 := ⟨43, by decide +kernel, rfl, Or.inl wm_750⟩
theorem d_X10_partAll_116 : pm_i e_X10_partAll 116 .iload_n .iload 5 118 := Or.inr ⟨by decide +kernel, rfl⟩
theorem d_X10_partAll_118 : pm_D e_X10_partAll 118 1 (.laload) 119 := ⟨by decide +kernel, rfl⟩
theorem d_X10_partAll_119 : pm_i e_X10_partAll 119 .aload_n .aload 0 120 := Or.inl ⟨0, by decide +kernel, rfl, rfl⟩
theorem d_X10_partAll_120 : pm_F e_X10_partAll 120 .getfield (RX10, "nextLowers", "[J") 123 := ⟨46, by decide +kernel, rfl, Or.inl wm_751⟩
theorem d_X10_partAll_123 : pm_i e_X10_partAll 123 .iload_n .iload 5 125 := Or.inr ⟨by decide +kernel, rfl⟩
theorem d_X10_partAll_125 : pm_D e_X10_partAll 125 1 (.laload) 126 := ⟨by decide +kernel, rfl⟩
theorem d_X10_partAll_126 : pm_i e_X10_partAll 126 .aload_n .aload 0 127 := Or.inl ⟨0, by decide +kernel, rfl, rfl⟩
theorem d_X10_partAll_127 : pm_F e_X10_partAll 127 .getfield (RX10, "ups", "[J") 130 := ⟨36, by decide +kernel, rfl, Or.inl wm_748⟩
theorem d_X10_partAll_130 : pm_i e_X10_partAll 130 .iload_n .iload 2 131 := Or.inl ⟨2, by decide +kernel, rfl, rfl⟩
theorem d_X10_partAll_131 : pm_D e_X10_partAll 131 1 (.laload) 132 := ⟨by decide +kernel, rfl⟩
theorem d_X10_partAll_132 : pm_i e_X10_partAll 132 .lload_n .lload 6 134 := Or.inr ⟨by decide +kernel, rfl⟩
theorem d_X10_partAll_134 : pm_D e_X10_partAll 134 1 (.ldiv) 135 := ⟨by decide +kernel, rfl⟩
theorem d_X10_partAll_135 : pm_i e_X10_partAll 135 .aload_n .aload 0 136 := Or.inl ⟨0, by decide +kernel, rfl, rfl⟩
theorem d_X10_partAll_136 : pm_F e_X10_partAll 136 .getfield (RX10, "lowers", "[J") 139 := ⟨40, by decide +kernel, rfl, Or.inl wm_749⟩
theorem d_X10_partAll_139 : pm_i e_X10_partAll 139 .iload_n .iload 2 140 := Or.inl ⟨2, by decide +kernel, rfl, rfl⟩
theorem d_X10_partAll_140 : pm_D e_X10_partAll 140 1 (.laload) 141 := ⟨by decide +kernel, rfl⟩
theorem d_X10_partAll_141 : pm_i e_X10_partAll 141 .iload_n .iload 3 142 := Or.inl ⟨3, by decide +kernel, rfl, rfl⟩
theorem d_X10_partAll_142 : pm_D e_X10_partAll 142 1 (.i2l) 143 := ⟨by decide +kernel, rfl⟩
theorem d_X10_partAll_143 : pm_i e_X10_partAll 143 .lload_n .lload 6 145 := Or.inr ⟨by decide +kernel, rfl⟩
theorem d_X10_partAll_145 : pm_D e_X10_partAll 145 1 (.ldiv) 146 := ⟨by decide +kernel, rfl⟩
theorem d_X10_partAll_146 : pm_D e_X10_partAll 146 1 (.lmul) 147 := ⟨by decide +kernel, rfl⟩
theorem d_X10_partAll_147 : pm_kV e_X10_partAll 147 e_X10_add RX10 4 150 := ⟨159, by decide +kernel, rfl, fit_X10_partAll_X10_add, wm_929, Or.inl ⟨wm_927, wm_30⟩⟩
theorem d_X10_partAll_150 : pm_i e_X10_partAll 150 .aload_n .aload 0 151 := Or.inl ⟨0, by decide +kernel, rfl, rfl⟩
theorem d_X10_partAll_151 : pm_F e_X10_partAll 151 .getfield (RX10, "nextUps", "[J") 154 := ⟨43, by decide +kernel, rfl, Or.inl wm_750⟩
theorem d_X10_partAll_154 : pm_i e_X10_partAll 154 .iload_n .iload 5 156 := Or.inr ⟨by decide +kernel, rfl⟩
theorem d_X10_partAll_156 : pm_i e_X10_partAll 156 .aload_n .aload 0 157 := Or.inl ⟨0, by decide +kernel, rfl, rfl⟩
theorem d_X10_partAll_157 : pm_F e_X10_partAll 157 .getfield (RX10, "sumUp", "J") 160 := ⟨142, by decide +kernel, rfl, Or.inl wm_754⟩
theorem d_X10_partAll_160 : pm_D e_X10_partAll 160 1 (.lastore) 161 := ⟨by decide +kernel, rfl⟩
theorem d_X10_partAll_161 : pm_i e_X10_partAll 161 .aload_n .aload 0 162 := Or.inl ⟨0, by decide +kernel, rfl, rfl⟩
theorem d_X10_partAll_162 : pm_F e_X10_partAll 162 .getfield (RX10, "nextLowers", "[J") 165 := ⟨46, by decide +kernel, rfl, Or.inl wm_751⟩
theorem d_X10_partAll_165 : pm_i e_X10_partAll 165 .iload_n .iload 5 167 := Or.inr ⟨by decide +kernel, rfl⟩
theorem d_X10_partAll_167 : pm_i e_X10_partAll 167 .aload_n .aload 0 168 := Or.inl ⟨0, by decide +kernel, rfl, rfl⟩
theorem d_X10_partAll_168 : pm_F e_X10_partAll 168 .getfield (RX10, "sumLow", "J") 171 := ⟨145, by decide +kernel, rfl, Or.inl wm_755⟩
theorem d_X10_partAll_171 : pm_D e_X10_partAll 171 1 (.lastore) 172 := ⟨by decide +kernel, rfl⟩
theorem d_X10_partAll_172 : pm_I e_X10_partAll 172 4 1 175 := ⟨1, by decide +kernel, by decide +kernel, rfl⟩
theorem d_X10_partAll_175 : pm_B e_X10_partAll 175 (fun z => .goto z) 66 178 := ⟨-109, by decide +kernel, by decide, rfl⟩
theorem d_X10_partAll_178 : pm_I e_X10_partAll 178 2 1 181 := ⟨1, by decide +kernel, by decide +kernel, rfl⟩
theorem d_X10_partAll_181 : pm_B e_X10_partAll 181 (fun z => .goto z) 30 184 := ⟨-151, by decide +kernel, by decide, rfl⟩
theorem d_X10_partAll_184 : pm_P e_X10_partAll 184 0 185 := Or.inl ⟨0, by decide +kernel, by decide +kernel, rfl⟩
theorem d_X10_partAll_185 : pm_i e_X10_partAll 185 .istore_n .istore 2 186 := Or.inl ⟨2, by decide +kernel, rfl, rfl⟩
theorem d_X10_partAll_186 : pm_i e_X10_partAll 186 .iload_n .iload 2 187 := Or.inl ⟨2, by decide +kernel, rfl, rfl⟩
theorem d_X10_partAll_187 : pm_P e_X10_partAll 187 60 189 := Or.inr <| Or.inl ⟨60, by decide +kernel, by decide +kernel, rfl⟩
theorem d_X10_partAll_189 : pm_B e_X10_partAll 189 (fun z => .if_icmp .gt z) 222 192 := ⟨33, by decide +kernel, by decide, rfl⟩
theorem d_X10_partAll_192 : pm_i e_X10_partAll 192 .aload_n .aload 0 193 := Or.inl ⟨0, by decide +kernel, rfl, rfl⟩
theorem d_X10_partAll_193 : pm_F e_X10_partAll 193 .getfield (RX10, "ups", "[J") 196 := ⟨36, by decide +kernel, rfl, Or.inl wm_748⟩
theorem d_X10_partAll_196 : pm_i e_X10_partAll 196 .iload_n .iload 2 197 := Or.inl ⟨2, by decide +kernel, rfl, rfl⟩
theorem d_X10_partAll_197 : pm_i e_X10_partAll 197 .aload_n .aload 0 198 := Or.inl ⟨0, by decide +kernel, rfl, rfl⟩
theorem d_X10_partAll_198 : pm_F e_X10_partAll 198 .getfield (RX10, "nextUps", "[J") 201 := ⟨43, by decide +kernel, rfl, Or.inl wm_750⟩
theorem d_X10_partAll_201 : pm_i e_X10_partAll 201 .iload_n .iload 2 202 := Or.inl ⟨2, by decide +kernel, rfl, rfl⟩
theorem d_X10_partAll_202 : pm_D e_X10_partAll 202 1 (.laload) 203 := ⟨by decide +kernel, rfl⟩
theorem d_X10_partAll_203 : pm_D e_X10_partAll 203 1 (.lastore) 204 := ⟨by decide +kernel, rfl⟩
theorem d_X10_partAll_204 : pm_i e_X10_partAll 204 .aload_n .aload 0 205 := Or.inl ⟨0, by decide +kernel, rfl, rfl⟩
theorem d_X10_partAll_205 : pm_F e_X10_partAll 205 .getfield (RX10, "lowers", "[J") 208 := ⟨40, by decide +kernel, rfl, Or.inl wm_749⟩
theorem d_X10_partAll_208 : pm_i e_X10_partAll 208 .iload_n .iload 2 209 := Or.inl ⟨2, by decide +kernel, rfl, rfl⟩
theorem d_X10_partAll_209 : pm_i e_X10_partAll 209 .aload_n .aload 0 210 := Or.inl ⟨0, by decide +kernel, rfl, rfl⟩
theorem d_X10_partAll_210 : pm_F e_X10_partAll 210 .getfield (RX10, "nextLowers", "[J") 213 := ⟨46, by decide +kernel, rfl, Or.inl wm_751⟩
theorem d_X10_partAll_213 : pm_i e_X10_partAll 213 .iload_n .iload 2 214 := Or.inl ⟨2, by decide +kernel, rfl, rfl⟩
theorem d_X10_partAll_214 : pm_D e_X10_partAll 214 1 (.laload) 215 := ⟨by decide +kernel, rfl⟩
theorem d_X10_partAll_215 : pm_D e_X10_partAll 215 1 (.lastore) 216 := ⟨by decide +kernel, rfl⟩
theorem d_X10_partAll_216 : pm_I e_X10_partAll 216 2 1 219 := ⟨1, by decide +kernel, by decide +kernel, rfl⟩
theorem d_X10_partAll_219 : pm_B e_X10_partAll 219 (fun z => .goto z) 186 222 := ⟨-33, by decide +kernel, by decide, rfl⟩
theorem d_X10_partAll_222 : pm_D e_X10_partAll 222 1 (.return_) 223 := ⟨by decide +kernel, rfl⟩
theorem d_X10_odds_0 : pm_i e_X10_odds 0 .aload_n .aload 0 1 := Or.inl ⟨0, by decide +kernel, rfl, rfl⟩
theorem d_X10_odds_1 : pm_i e_X10_odds 1 .iload_n .iload 1 2 := Or.inl ⟨1, by decide +kernel, rfl, rfl⟩
theorem d_X10_odds_2 : pm_kV e_X10_odds 2 e_X10_isCaster RX10 1 5 := ⟨118, by decide +kernel, rfl, fit_X10_odds_X10_isCaster, wm_865, Or.inl ⟨wm_863, wm_20⟩⟩
theorem d_X10_odds_5 : pm_B e_X10_odds 5 (fun z => .ifCond .eq z) 18 8 := ⟨13, by decide +kernel, by decide, rfl⟩
theorem d_X10_odds_8 : pm_i e_X10_odds 8 .iload_n .iload 2 9 := Or.inl ⟨2, by decide +kernel, rfl, rfl⟩
theorem d_X10_odds_9 : pm_P e_X10_odds 9 0 10 := Or.inl ⟨0, by decide +kernel, by decide +kernel, rfl⟩
theorem d_X10_odds_10 : pm_P e_X10_odds 10 30 12 := Or.inr <| Or.inl ⟨30, by decide +kernel, by decide +kernel, rfl⟩
theorem d_X10_odds_12 : pm_kS e_X10_odds 12 e_X10_in 3 15 := ⟨106, by decide +kernel, rfl, fit_X10_odds_X10_in, wm_853, Or.inl wm_852⟩
theorem d_X10_odds_15 : pm_B e_X10_odds 15 (fun z => .ifCond .ne z) 20 18 := ⟨5, by decide +kernel, by decide, rfl⟩
theorem d_X10_odds_18 : pm_P e_X10_odds 18 (-1) 19 := Or.inl ⟨-1, by decide +kernel, by decide +kernel, rfl⟩
theorem d_X10_odds_19 : pm_D e_X10_odds 19 1 (.ireturn) 20 := ⟨by decide +kernel, rfl⟩
theorem d_X10_odds_20 : pm_i e_X10_odds 20 .aload_n .aload 0 21 := Or.inl ⟨0, by decide +kernel, rfl, rfl⟩
theorem d_X10_odds_21 : pm_i e_X10_odds 21 .iload_n .iload 1 22 := Or.inl ⟨1, by decide +kernel, rfl, rfl⟩
theorem d_X10_odds_22 : pm_kV e_X10_odds 22 e_X10_setOdds RX10 1 25 := ⟨163, by decide +kernel, rfl, fit_X10_odds_X10_setOdds, wm_912, Or.inl ⟨wm_910, wm_27⟩⟩
theorem d_X10_odds_25 : pm_i e_X10_odds 25 .aload_n .aload 0 26 := Or.inl ⟨0, by decide +kernel, rfl, rfl⟩
theorem d_X10_odds_26 : pm_i e_X10_odds 26 .aload_n .aload 0 27 := Or.inl ⟨0, by decide +kernel, rfl, rfl⟩
theorem d_X10_odds_27 : pm_F e_X10_odds 27 .getfield (RX10, "oddsUp", "[J") 30 := ⟨49, by decide +kernel, rfl, Or.inl wm_752⟩
theorem d_X10_odds_30 : pm_i e_X10_odds 30 .iload_n .iload 2 31 := Or.inl ⟨2, by decide +kernel, rfl, rfl⟩
theorem d_X10_odds_31 : pm_D e_X10_odds 31 1 (.laload) 32 := ⟨by decide +kernel, rfl⟩
theorem d_X10_odds_32 : pm_i e_X10_odds 32 .aload_n .aload 0 33 := Or.inl ⟨0, by decide +kernel, rfl, rfl⟩
theorem d_X10_odds_33 : pm_F e_X10_odds 33 .getfield (RX10, "oddsLow", "[J") 36 := ⟨52, by decide +kernel, rfl, Or.inl wm_753⟩
theorem d_X10_odds_36 : pm_i e_X10_odds 36 .iload_n .iload 2 37 := Or.inl ⟨2, by decide +kernel, rfl, rfl⟩
theorem d_X10_odds_37 : pm_D e_X10_odds 37 1 (.laload) 38 := ⟨by decide +kernel, rfl⟩
theorem d_X10_odds_38 : pm_kV e_X10_odds 38 e_X10_tell RX10 2 41 := ⟨166, by decide +kernel, rfl, fit_X10_odds_X10_tell, wm_933, Or.inl ⟨wm_931, wm_31⟩⟩
theorem d_X10_odds_41 : pm_D e_X10_odds 41 1 (.ireturn) 42 := ⟨by decide +kernel, rfl⟩
theorem d_X10_mean_0 : pm_i e_X10_mean 0 .aload_n .aload 0 1 := Or.inl ⟨0, by decide +kernel, rfl, rfl⟩
