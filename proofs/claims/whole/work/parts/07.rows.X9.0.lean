theorem d_X9_init_0 : pm_i e_X9_init 0 .aload_n .aload 0 1 := Or.inl ⟨0, by decide +kernel, rfl, rfl⟩
theorem d_X9_init_1 : pm_D e_X9_init 1 3 (.invokespecial 3) 4 := ⟨by decide +kernel, rfl⟩
theorem d_X9_init_4 : pm_i e_X9_init 4 .aload_n .aload 0 5 := Or.inl ⟨0, by decide +kernel, rfl, rfl⟩
theorem d_X9_init_5 : pm_P e_X9_init 5 10 7 := Or.inr <| Or.inl ⟨10, by decide +kernel, by decide +kernel, rfl⟩
theorem d_X9_init_7 : pm_D e_X9_init 7 3 (.anewarray 9) 10 := ⟨by decide +kernel, rfl⟩
theorem d_X9_init_10 : pm_F e_X9_init 10 .putfield (RX9, "casters", "[LStalkRoom$Caster;") 13 := ⟨11, by decide +kernel, rfl, Or.inl wm_161⟩
theorem d_X9_init_13 : pm_i e_X9_init 13 .aload_n .aload 0 14 := Or.inl ⟨0, by decide +kernel, rfl, rfl⟩
theorem d_X9_init_14 : pm_P e_X9_init 14 0 15 := Or.inl ⟨0, by decide +kernel, by decide +kernel, rfl⟩
theorem d_X9_init_15 : pm_F e_X9_init 15 .putfield (RX9, "casterCount", "I") 18 := ⟨15, by decide +kernel, rfl, Or.inl wm_162⟩
theorem d_X9_init_18 : pm_i e_X9_init 18 .aload_n .aload 0 19 := Or.inl ⟨0, by decide +kernel, rfl, rfl⟩
theorem d_X9_init_19 : pm_P e_X9_init 19 8 21 := Or.inr <| Or.inl ⟨8, by decide +kernel, by decide +kernel, rfl⟩
theorem d_X9_init_21 : pm_D e_X9_init 21 3 (.anewarray 19) 24 := ⟨by decide +kernel, rfl⟩
theorem d_X9_init_24 : pm_F e_X9_init 24 .putfield (RX9, "figures", "[LStalkRoom$Figure;") 27 := ⟨21, by decide +kernel, rfl, Or.inl wm_163⟩
theorem d_X9_init_27 : pm_i e_X9_init 27 .aload_n .aload 0 28 := Or.inl ⟨0, by decide +kernel, rfl, rfl⟩
theorem d_X9_init_28 : pm_N e_X9_init 28 3 1 [.null] 31 := ⟨19, RX3, TX3, tyX3, by decide +kernel, rfl, rfl, wm_68, wm_70, wm_44, inX3, tyX3_ok, by decide +kernel⟩
theorem d_X9_init_31 : pm_D e_X9_init 31 1 (.dup) 32 := ⟨by decide +kernel, rfl⟩
theorem d_X9_init_32 : pm_kI e_X9_init 32 e_X3_init 0 35 := ⟨25, by decide +kernel, rfl, fit_X9_init_X3_init, rfl, rfl, wm_72, Or.inl wm_71⟩
theorem d_X9_init_35 : pm_F e_X9_init 35 .putfield (RX9, "spare", "LStalkRoom$Figure;") 38 := ⟨26, by decide +kernel, rfl, Or.inl wm_164⟩
theorem d_X9_init_38 : pm_i e_X9_init 38 .aload_n .aload 0 39 := Or.inl ⟨0, by decide +kernel, rfl, rfl⟩
theorem d_X9_init_39 : pm_P e_X9_init 39 4 40 := Or.inl ⟨4, by decide +kernel, by decide +kernel, rfl⟩
theorem d_X9_init_40 : pm_D e_X9_init 40 3 (.anewarray 30) 43 := ⟨by decide +kernel, rfl⟩
theorem d_X9_init_43 : pm_F e_X9_init 43 .putfield (RX9, "rows", "[LStalkRoom$ByteRow;") 46 := ⟨32, by decide +kernel, rfl, Or.inl wm_165⟩
theorem d_X9_init_46 : pm_i e_X9_init 46 .aload_n .aload 0 47 := Or.inl ⟨0, by decide +kernel, rfl, rfl⟩
theorem d_X9_init_47 : pm_N e_X9_init 47 8 5 [.null, .null, .null, .null, .int 0] 50 := ⟨36, RX8, TX8, tyX8, by decide +kernel, rfl, rfl, wm_86, wm_87, wm_46, inX8, tyX8_ok, by decide +kernel⟩
theorem d_X9_init_50 : pm_D e_X9_init 50 1 (.dup) 51 := ⟨by decide +kernel, rfl⟩
theorem d_X9_init_51 : pm_kI e_X9_init 51 e_X8_init 0 54 := ⟨38, by decide +kernel, rfl, fit_X9_init_X8_init, rfl, rfl, wm_89, Or.inr ⟨_, wm_88⟩⟩
theorem d_X9_init_54 : pm_F e_X9_init 54 .putfield (RX9, "finder", "LStalkRoom$WayFinder;") 57 := ⟨39, by decide +kernel, rfl, Or.inl wm_166⟩
theorem d_X9_init_57 : pm_i e_X9_init 57 .aload_n .aload 0 58 := Or.inl ⟨0, by decide +kernel, rfl, rfl⟩
theorem d_X9_init_58 : pm_N e_X9_init 58 5 1 [.long 0] 61 := ⟨43, RX5, TX5, tyX5, by decide +kernel, rfl, rfl, wm_108, wm_109, wm_47, inX5, tyX5_ok, by decide +kernel⟩
theorem d_X9_init_61 : pm_D e_X9_init 61 1 (.dup) 62 := ⟨by decide +kernel, rfl⟩
theorem d_X9_init_62 : pm_kI e_X9_init 62 e_X5_init 0 65 := ⟨45, by decide +kernel, rfl, fit_X9_init_X5_init, rfl, rfl, wm_111, Or.inr ⟨_, wm_110⟩⟩
theorem d_X9_init_65 : pm_F e_X9_init 65 .putfield (RX9, "seed", "LStalkRoom$Seed;") 68 := ⟨46, by decide +kernel, rfl, Or.inl wm_167⟩
theorem d_X9_init_68 : pm_i e_X9_init 68 .aload_n .aload 0 69 := Or.inl ⟨0, by decide +kernel, rfl, rfl⟩
theorem d_X9_init_69 : pm_N e_X9_init 69 4 4 [.null, .null, .null, .long 0] 72 := ⟨50, RX4, TX4, tyX4, by decide +kernel, rfl, rfl, wm_118, wm_119, wm_48, inX4, tyX4_ok, by decide +kernel⟩
theorem d_X9_init_72 : pm_D e_X9_init 72 1 (.dup) 73 := ⟨by decide +kernel, rfl⟩
theorem d_X9_init_73 : pm_kI e_X9_init 73 e_X4_init 0 76 := ⟨52, by decide +kernel, rfl, fit_X9_init_X4_init, rfl, rfl, wm_121, Or.inr ⟨_, wm_120⟩⟩
theorem d_X9_init_76 : pm_F e_X9_init 76 .putfield (RX9, "odds", "LStalkRoom$Odds;") 79 := ⟨53, by decide +kernel, rfl, Or.inl wm_168⟩
theorem d_X9_init_79 : pm_i e_X9_init 79 .aload_n .aload 0 80 := Or.inl ⟨0, by decide +kernel, rfl, rfl⟩
theorem d_X9_init_80 : pm_P e_X9_init 80 31 82 := Or.inr <| Or.inl ⟨31, by decide +kernel, by decide +kernel, rfl⟩
theorem d_X9_init_82 : pm_D e_X9_init 82 2 (.newarray .int) 84 := ⟨by decide +kernel, rfl⟩
theorem d_X9_init_84 : pm_F e_X9_init 84 .putfield (RX9, "parts", "[I") 87 := ⟨57, by decide +kernel, rfl, Or.inl wm_169⟩
theorem d_X9_init_87 : pm_i e_X9_init 87 .aload_n .aload 0 88 := Or.inl ⟨0, by decide +kernel, rfl, rfl⟩
theorem d_X9_init_88 : pm_P e_X9_init 88 31 90 := Or.inr <| Or.inl ⟨31, by decide +kernel, by decide +kernel, rfl⟩
theorem d_X9_init_90 : pm_D e_X9_init 90 2 (.newarray .int) 92 := ⟨by decide +kernel, rfl⟩
theorem d_X9_init_92 : pm_F e_X9_init 92 .putfield (RX9, "otherParts", "[I") 95 := ⟨61, by decide +kernel, rfl, Or.inl wm_170⟩
theorem d_X9_init_95 : pm_i e_X9_init 95 .aload_n .aload 0 96 := Or.inl ⟨0, by decide +kernel, rfl, rfl⟩
theorem d_X9_init_96 : pm_P e_X9_init 96 6 98 := Or.inr <| Or.inl ⟨6, by decide +kernel, by decide +kernel, rfl⟩
theorem d_X9_init_98 : pm_D e_X9_init 98 2 (.newarray .int) 100 := ⟨by decide +kernel, rfl⟩
theorem d_X9_init_100 : pm_F e_X9_init 100 .putfield (RX9, "findingTimes", "[I") 103 := ⟨64, by decide +kernel, rfl, Or.inl wm_171⟩
theorem d_X9_init_103 : pm_i e_X9_init 103 .aload_n .aload 0 104 := Or.inl ⟨0, by decide +kernel, rfl, rfl⟩
theorem d_X9_init_104 : pm_P e_X9_init 104 0 105 := Or.inl ⟨0, by decide +kernel, by decide +kernel, rfl⟩
theorem d_X9_init_105 : pm_F e_X9_init 105 .putfield (RX9, "latestFinding", "I") 108 := ⟨67, by decide +kernel, rfl, Or.inl wm_172⟩
theorem d_X9_init_108 : pm_i e_X9_init 108 .aload_n .aload 0 109 := Or.inl ⟨0, by decide +kernel, rfl, rfl⟩
theorem d_X9_init_109 : pm_PL e_X9_init 109 0 110 := Or.inl ⟨0, by decide +kernel, by decide +kernel, rfl⟩
theorem d_X9_init_110 : pm_F e_X9_init 110 .putfield (RX9, "lastAsked", "J") 113 := ⟨70, by decide +kernel, rfl, Or.inl wm_173⟩
theorem d_X9_init_113 : pm_i e_X9_init 113 .aload_n .aload 0 114 := Or.inl ⟨0, by decide +kernel, rfl, rfl⟩
theorem d_X9_init_114 : pm_PL e_X9_init 114 0 115 := Or.inl ⟨0, by decide +kernel, by decide +kernel, rfl⟩
theorem d_X9_init_115 : pm_F e_X9_init 115 .putfield (RX9, "fractionUpper", "J") 118 := ⟨74, by decide +kernel, rfl, Or.inl wm_174⟩
theorem d_X9_init_118 : pm_i e_X9_init 118 .aload_n .aload 0 119 := Or.inl ⟨0, by decide +kernel, rfl, rfl⟩
theorem d_X9_init_119 : pm_PL e_X9_init 119 1 120 := Or.inl ⟨1, by decide +kernel, by decide +kernel, rfl⟩
theorem d_X9_init_120 : pm_F e_X9_init 120 .putfield (RX9, "fractionLower", "J") 123 := ⟨77, by decide +kernel, rfl, Or.inl wm_175⟩
theorem d_X9_init_123 : pm_P e_X9_init 123 0 124 := Or.inl ⟨0, by decide +kernel, by decide +kernel, rfl⟩
theorem d_X9_init_124 : pm_i e_X9_init 124 .istore_n .istore 1 125 := Or.inl ⟨1, by decide +kernel, rfl, rfl⟩
theorem d_X9_init_125 : pm_i e_X9_init 125 .iload_n .iload 1 126 := Or.inl ⟨1, by decide +kernel, rfl, rfl⟩
theorem d_X9_init_126 : pm_P e_X9_init 126 8 128 := Or.inr <| Or.inl ⟨8, by decide +kernel, by decide +kernel, rfl⟩
theorem d_X9_init_128 : pm_B e_X9_init 128 (fun z => .if_icmp .ge z) 150 131 := ⟨22, by decide +kernel, by decide, rfl⟩
theorem d_X9_init_131 : pm_i e_X9_init 131 .aload_n .aload 0 132 := Or.inl ⟨0, by decide +kernel, rfl, rfl⟩
theorem d_X9_init_132 : pm_F e_X9_init 132 .getfield (RX9, "figures", "[LStalkRoom$Figure;") 135 := ⟨21, by decide +kernel, rfl, Or.inl wm_163⟩
theorem d_X9_init_135 : pm_i e_X9_init 135 .iload_n .iload 1 136 := Or.inl ⟨1, by decide +kernel, rfl, rfl⟩
theorem d_X9_init_136 : pm_N e_X9_init 136 3 1 [.null] 139 := ⟨19, RX3, TX3, tyX3, by decide +kernel, rfl, rfl, wm_68, wm_70, wm_44, inX3, tyX3_ok, by decide +kernel⟩
theorem d_X9_init_139 : pm_D e_X9_init 139 1 (.dup) 140 := ⟨by decide +kernel, rfl⟩
theorem d_X9_init_140 : pm_kI e_X9_init 140 e_X3_init 0 143 := ⟨25, by decide +kernel, rfl, fit_X9_init_X3_init, rfl, rfl, wm_72, Or.inl wm_71⟩
theorem d_X9_init_143 : pm_D e_X9_init 143 1 (.aastore) 144 := ⟨by decide +kernel, rfl⟩
theorem d_X9_init_144 : pm_I e_X9_init 144 1 1 147 := ⟨1, by decide +kernel, by decide +kernel, rfl⟩
theorem d_X9_init_147 : pm_B e_X9_init 147 (fun z => .goto z) 125 150 := ⟨-22, by decide +kernel, by decide, rfl⟩
theorem d_X9_init_150 : pm_P e_X9_init 150 0 151 := Or.inl ⟨0, by decide +kernel, by decide +kernel, rfl⟩
theorem d_X9_init_151 : pm_i e_X9_init 151 .istore_n .istore 1 152 := Or.inl ⟨1, by decide +kernel, rfl, rfl⟩
theorem d_X9_init_152 : pm_i e_X9_init 152 .iload_n .iload 1 153 := Or.inl ⟨1, by decide +kernel, rfl, rfl⟩
theorem d_X9_init_153 : pm_P e_X9_init 153 4 154 := Or.inl ⟨4, by decide +kernel, by decide +kernel, rfl⟩
theorem d_X9_init_154 : pm_B e_X9_init 154 (fun z => .if_icmp .ge z) 176 157 := ⟨22, by decide +kernel, by decide, rfl⟩
theorem d_X9_init_157 : pm_i e_X9_init 157 .aload_n .aload 0 158 := Or.inl ⟨0, by decide +kernel, rfl, rfl⟩
theorem d_X9_init_158 : pm_F e_X9_init 158 .getfield (RX9, "rows", "[LStalkRoom$ByteRow;") 161 := ⟨32, by decide +kernel, rfl, Or.inl wm_165⟩
theorem d_X9_init_161 : pm_i e_X9_init 161 .iload_n .iload 1 162 := Or.inl ⟨1, by decide +kernel, rfl, rfl⟩
theorem d_X9_init_162 : pm_N e_X9_init 162 0 2 [.null, .int 0] 165 := ⟨30, RX0, TX0, tyX0, by decide +kernel, rfl, rfl, wm_84, wm_146, wm_49, inX0, tyX0_ok, by decide +kernel⟩
theorem d_X9_init_165 : pm_D e_X9_init 165 1 (.dup) 166 := ⟨by decide +kernel, rfl⟩
theorem d_X9_init_166 : pm_kI e_X9_init 166 e_X0_init 0 169 := ⟨80, by decide +kernel, rfl, fit_X9_init_X0_init, rfl, rfl, wm_148, Or.inr ⟨_, wm_147⟩⟩
theorem d_X9_init_169 : pm_D e_X9_init 169 1 (.aastore) 170 := ⟨by decide +kernel, rfl⟩
theorem d_X9_init_170 : pm_I e_X9_init 170 1 1 173 := ⟨1, by decide +kernel, by decide +kernel, rfl⟩
theorem d_X9_init_173 : pm_B e_X9_init 173 (fun z => .goto z) 152 176 := ⟨-21, by decide +kernel, by decide, rfl⟩
theorem d_X9_init_176 : pm_D e_X9_init 176 1 (.return_) 177 := ⟨by decide +kernel, rfl⟩
theorem d_X9_caster_0 : pm_i e_X9_caster 0 .aload_n .aload 0 1 := Or.inl ⟨0, by decide +kernel, rfl, rfl⟩
theorem d_X9_caster_1 : pm_F e_X9_caster 1 .getfield (RX9, "casterCount", "I") 4 := ⟨15, by decide +kernel, rfl, Or.inl wm_162⟩
theorem d_X9_caster_4 : pm_P e_X9_caster 4 10 6 := Or.inr <| Or.inl ⟨10, by decide +kernel, by decide +kernel, rfl⟩
theorem d_X9_caster_6 : pm_B e_X9_caster 6 (fun z => .if_icmp .lt z) 12 9 := ⟨6, by decide +kernel, by decide, rfl⟩
theorem d_X9_caster_9 : pm_P e_X9_caster 9 (-2) 11 := Or.inr <| Or.inl ⟨-2, by decide +kernel, by decide +kernel, rfl⟩
theorem d_X9_caster_11 : pm_D e_X9_caster 11 1 (.ireturn) 12 := ⟨by decide +kernel, rfl⟩
theorem d_X9_caster_12 : pm_i e_X9_caster 12 .aload_n .aload 0 13 := Or.inl ⟨0, by decide +kernel, rfl, rfl⟩
theorem d_X9_caster_13 : pm_i e_X9_caster 13 .iload_n .iload 1 14 := Or.inl ⟨1, by decide +kernel, rfl, rfl⟩
theorem d_X9_caster_14 : pm_B e_X9_caster 14 (fun z => .ifCond .eq z) 27 17 := ⟨13, by decide +kernel, by decide, rfl⟩
theorem d_X9_caster_17 : pm_N e_X9_caster 17 2 0 [] 20 := ⟨81, RX2, TX2, tyX2, by decide +kernel, rfl, rfl, wm_211, wm_212, wm_52, inX2, tyX2_ok, by decide +kernel⟩
theorem d_X9_caster_20 : pm_D e_X9_caster 20 1 (.dup) 21 := ⟨by decide +kernel, rfl⟩
theorem d_X9_caster_21 : pm_kI e_X9_caster 21 e_X2_init 0 24 := ⟨83, by decide +kernel, rfl, fit_X9_caster_X2_init, rfl, rfl, wm_214, Or.inr ⟨_, wm_213⟩⟩
theorem d_X9_caster_24 : pm_B e_X9_caster 24 (fun z => .goto z) 34 27 := ⟨10, by decide +kernel, by decide, rfl⟩
theorem d_X9_caster_27 : pm_N e_X9_caster 27 1 0 [] 30 := ⟨9, RX1, TX1, tyX1, by decide +kernel, rfl, rfl, wm_66, wm_221, wm_51, inX1, tyX1_ok, by decide +kernel⟩
theorem d_X9_caster_30 : pm_D e_X9_caster 30 1 (.dup) 31 := ⟨by decide +kernel, rfl⟩
theorem d_X9_caster_31 : pm_kI e_X9_caster 31 e_X1_init 0 34 := ⟨84, by decide +kernel, rfl, fit_X9_caster_X1_init, rfl, rfl, wm_217, Or.inr ⟨_, wm_222⟩⟩
theorem d_X9_caster_34 : pm_kV e_X9_caster 34 e_X9_keep RX9 1 37 := ⟨85, by decide +kernel, rfl, fit_X9_caster_X9_keep, wm_226, Or.inl ⟨wm_224, wm_0⟩⟩
theorem d_X9_caster_37 : pm_D e_X9_caster 37 1 (.ireturn) 38 := ⟨by decide +kernel, rfl⟩
theorem d_X9_stalks_0 : pm_i e_X9_stalks 0 .iload_n .iload 1 1 := Or.inl ⟨1, by decide +kernel, rfl, rfl⟩
theorem d_X9_stalks_1 : pm_i e_X9_stalks 1 .iload_n .iload 2 2 := Or.inl ⟨2, by decide +kernel, rfl, rfl⟩
theorem d_X9_stalks_2 : pm_kS e_X9_stalks 2 e_X9_isBundle 2 5 := ⟨89, by decide +kernel, rfl, fit_X9_stalks_X9_isBundle, wm_233, Or.inl wm_232⟩
theorem d_X9_stalks_5 : pm_B e_X9_stalks 5 (fun z => .ifCond .ne z) 10 8 := ⟨5, by decide +kernel, by decide, rfl⟩
theorem d_X9_stalks_8 : pm_P e_X9_stalks 8 (-1) 9 := Or.inl ⟨-1, by decide +kernel, by decide +kernel, rfl⟩
theorem d_X9_stalks_9 : pm_D e_X9_stalks 9 1 (.ireturn) 10 := ⟨by decide +kernel, rfl⟩
theorem d_X9_stalks_10 : pm_i e_X9_stalks 10 .aload_n .aload 0 11 := Or.inl ⟨0, by decide +kernel, rfl, rfl⟩
theorem d_X9_stalks_11 : pm_F e_X9_stalks 11 .getfield (RX9, "casterCount", "I") 14 := ⟨15, by decide +kernel, rfl, Or.inl wm_162⟩
theorem d_X9_stalks_14 : pm_P e_X9_stalks 14 10 16 := Or.inr <| Or.inl ⟨10, by decide +kernel, by decide +kernel, rfl⟩
theorem d_X9_stalks_16 : pm_B e_X9_stalks 16 (fun z => .if_icmp .lt z) 22 19 := ⟨6, by decide +kernel, by decide, rfl⟩
theorem d_X9_stalks_19 : pm_P e_X9_stalks 19 (-2) 21 := Or.inr <| Or.inl ⟨-2, by decide +kernel, by decide +kernel, rfl⟩
theorem d_X9_stalks_21 : pm_D e_X9_stalks 21 1 (.ireturn) 22 := ⟨by decide +kernel, rfl⟩
theorem d_X9_stalks_22 : pm_i e_X9_stalks 22 .aload_n .aload 0 23 := Or.inl ⟨0, by decide +kernel, rfl, rfl⟩
theorem d_X9_stalks_23 : pm_N e_X9_stalks 23 6 3 [.int 0, .int 0, .int 0] 26 := ⟨93, RX6, TX6, tyX6, by decide +kernel, rfl, rfl, wm_235, wm_236, wm_53, inX6, tyX6_ok, by decide +kernel⟩
theorem d_X9_stalks_26 : pm_D e_X9_stalks 26 1 (.dup) 27 := ⟨by decide +kernel, rfl⟩
theorem d_X9_stalks_27 : pm_i e_X9_stalks 27 .iload_n .iload 1 28 := Or.inl ⟨1, by decide +kernel, rfl, rfl⟩
theorem d_X9_stalks_28 : pm_i e_X9_stalks 28 .iload_n .iload 2 29 := Or.inl ⟨2, by decide +kernel, rfl, rfl⟩
theorem d_X9_stalks_29 : pm_i e_X9_stalks 29 .iload_n .iload 3 30 := Or.inl ⟨3, by decide +kernel, rfl, rfl⟩
theorem d_X9_stalks_30 : pm_kI e_X9_stalks 30 e_X6_init 3 33 := ⟨95, by decide +kernel, rfl, fit_X9_stalks_X6_init, rfl, rfl, wm_238, Or.inl wm_237⟩
theorem d_X9_stalks_33 : pm_kV e_X9_stalks 33 e_X9_keep RX9 1 36 := ⟨85, by decide +kernel, rfl, fit_X9_stalks_X9_keep, wm_226, Or.inl ⟨wm_224, wm_0⟩⟩
theorem d_X9_stalks_36 : pm_D e_X9_stalks 36 1 (.ireturn) 37 := ⟨by decide +kernel, rfl⟩
theorem d_X9_thumb_0 : pm_i e_X9_thumb 0 .iload_n .iload 1 1 := Or.inl ⟨1, by decide +kernel, rfl, rfl⟩
theorem d_X9_thumb_1 : pm_i e_X9_thumb 1 .iload_n .iload 2 2 := Or.inl ⟨2, by decide +kernel, rfl, rfl⟩
theorem d_X9_thumb_2 : pm_kS e_X9_thumb 2 e_X9_isBundle 2 5 := ⟨89, by decide +kernel, rfl, fit_X9_thumb_X9_isBundle, wm_233, Or.inl wm_232⟩
theorem d_X9_thumb_5 : pm_B e_X9_thumb 5 (fun z => .ifCond .eq z) 28 8 := ⟨23, by decide +kernel, by decide, rfl⟩
theorem d_X9_thumb_8 : pm_i e_X9_thumb 8 .iload_n .iload 4 10 := Or.inr ⟨by decide +kernel, rfl⟩
theorem d_X9_thumb_10 : pm_P e_X9_thumb 10 1 11 := Or.inl ⟨1, by decide +kernel, by decide +kernel, rfl⟩
theorem d_X9_thumb_11 : pm_B e_X9_thumb 11 (fun z => .if_icmp .lt z) 28 14 := ⟨17, by decide +kernel, by decide, rfl⟩
theorem d_X9_thumb_14 : pm_i e_X9_thumb 14 .iload_n .iload 5 16 := Or.inr ⟨by decide +kernel, rfl⟩
theorem d_X9_thumb_16 : pm_i e_X9_thumb 16 .iload_n .iload 4 18 := Or.inr ⟨by decide +kernel, rfl⟩
theorem d_X9_thumb_18 : pm_B e_X9_thumb 18 (fun z => .if_icmp .lt z) 28 21 := ⟨10, by decide +kernel, by decide, rfl⟩
theorem d_X9_thumb_21 : pm_i e_X9_thumb 21 .iload_n .iload 5 23 := Or.inr ⟨by decide +kernel, rfl⟩
theorem d_X9_thumb_23 : pm_P e_X9_thumb 23 59 25 := Or.inr <| Or.inl ⟨59, by decide +kernel, by decide +kernel, rfl⟩
theorem d_X9_thumb_25 : pm_B e_X9_thumb 25 (fun z => .if_icmp .le z) 30 28 := ⟨5, by decide +kernel, by decide, rfl⟩
theorem d_X9_thumb_28 : pm_P e_X9_thumb 28 (-1) 29 := Or.inl ⟨-1, by decide +kernel, by decide +kernel, rfl⟩
theorem d_X9_thumb_29 : pm_D e_X9_thumb 29 1 (.ireturn) 30 := ⟨by decide +kernel, rfl⟩
theorem d_X9_thumb_30 : pm_i e_X9_thumb 30 .aload_n .aload 0 31 := Or.inl ⟨0, by decide +kernel, rfl, rfl⟩
theorem d_X9_thumb_31 : pm_F e_X9_thumb 31 .getfield (RX9, "casterCount", "I") 34 := ⟨15, by decide +kernel, rfl, Or.inl wm_162⟩
theorem d_X9_thumb_34 : pm_P e_X9_thumb 34 10 36 := Or.inr <| Or.inl ⟨10, by decide +kernel, by decide +kernel, rfl⟩
theorem d_X9_thumb_36 : pm_B e_X9_thumb 36 (fun z => .if_icmp .lt z) 42 39 := ⟨6, by decide +kernel, by decide, rfl⟩
theorem d_X9_thumb_39 : pm_P e_X9_thumb 39 (-2) 41 := Or.inr <| Or.inl ⟨-2, by decide +kernel, by decide +kernel, rfl⟩
theorem d_X9_thumb_41 : pm_D e_X9_thumb 41 1 (.ireturn) 42 := ⟨by decide +kernel, rfl⟩
theorem d_X9_thumb_42 : pm_i e_X9_thumb 42 .aload_n .aload 0 43 := Or.inl ⟨0, by decide +kernel, rfl, rfl⟩
theorem d_X9_thumb_43 : pm_N e_X9_thumb 43 7 5 [.int 0, .int 0, .int 0, .int 0, .int 0] 46 := ⟨98, RX7, TX7, tyX7, by decide +kernel, rfl, rfl, wm_256, wm_257, wm_54, inX7, tyX7_ok, by decide +kernel⟩
theorem d_X9_thumb_46 : pm_D e_X9_thumb 46 1 (.dup) 47 := ⟨by decide +kernel, rfl⟩
theorem d_X9_thumb_47 : pm_i e_X9_thumb 47 .iload_n .iload 1 48 := Or.inl ⟨1, by decide +kernel, rfl, rfl⟩
theorem d_X9_thumb_48 : pm_i e_X9_thumb 48 .iload_n .iload 2 49 := Or.inl ⟨2, by decide +kernel, rfl, rfl⟩
theorem d_X9_thumb_49 : pm_i e_X9_thumb 49 .iload_n .iload 3 50 := Or.inl ⟨3, by decide +kernel, rfl, rfl⟩
theorem d_X9_thumb_50 : pm_i e_X9_thumb 50 .iload_n .iload 4 52 := Or.inr ⟨by decide +kernel, rfl⟩
theorem d_X9_thumb_52 : pm_i e_X9_thumb 52 .iload_n .iload 5 54 := Or.inr ⟨by decide +kernel, rfl⟩
theorem d_X9_thumb_54 : pm_kI e_X9_thumb 54 e_X7_init 5 57 := ⟨100, by decide +kernel, rfl, fit_X9_thumb_X7_init, rfl, rfl, wm_259, Or.inl wm_258⟩
theorem d_X9_thumb_57 : pm_kV e_X9_thumb 57 e_X9_keep RX9 1 60 := ⟨85, by decide +kernel, rfl, fit_X9_thumb_X9_keep, wm_226, Or.inl ⟨wm_224, wm_0⟩⟩
theorem d_X9_thumb_60 : pm_D e_X9_thumb 60 1 (.ireturn) 61 := ⟨by decide +kernel, rfl⟩
theorem d_X9_told_0 : pm_i e_X9_told 0 .aload_n .aload 0 1 := Or.inl ⟨0, by decide +kernel, rfl, rfl⟩
theorem d_X9_told_1 : pm_i e_X9_told 1 .iload_n .iload 1 2 := Or.inl ⟨1, by decide +kernel, rfl, rfl⟩
theorem d_X9_told_2 : pm_kV e_X9_told 2 e_X9_casterAt RX9 1 5 := ⟨103, by decide +kernel, rfl, fit_X9_told_X9_casterAt, wm_278, Or.inl ⟨wm_276, wm_1⟩⟩
theorem d_X9_told_5 : pm_i e_X9_told 5 .astore_n .astore 3 6 := Or.inl ⟨3, by decide +kernel, rfl, rfl⟩
theorem d_X9_told_6 : pm_i e_X9_told 6 .aload_n .aload 3 7 := Or.inl ⟨3, by decide +kernel, rfl, rfl⟩
theorem d_X9_told_7 : pm_B e_X9_told 7 (fun z => .ifnull z) 19 10 := ⟨12, by decide +kernel, by decide, rfl⟩
theorem d_X9_told_10 : pm_i e_X9_told 10 .iload_n .iload 2 11 := Or.inl ⟨2, by decide +kernel, rfl, rfl⟩
theorem d_X9_told_11 : pm_B e_X9_told 11 (fun z => .ifCond .lt z) 19 14 := ⟨8, by decide +kernel, by decide, rfl⟩
theorem d_X9_told_14 : pm_i e_X9_told 14 .iload_n .iload 2 15 := Or.inl ⟨2, by decide +kernel, rfl, rfl⟩
theorem d_X9_told_15 : pm_P e_X9_told 15 3 16 := Or.inl ⟨3, by decide +kernel, by decide +kernel, rfl⟩
theorem d_X9_told_16 : pm_B e_X9_told 16 (fun z => .if_icmp .le z) 21 19 := ⟨5, by decide +kernel, by decide, rfl⟩
theorem d_X9_told_19 : pm_P e_X9_told 19 (-1) 20 := Or.inl ⟨-1, by decide +kernel, by decide +kernel, rfl⟩
theorem d_X9_told_20 : pm_D e_X9_told 20 1 (.ireturn) 21 := ⟨by decide +kernel, rfl⟩
theorem d_X9_told_21 : pm_i e_X9_told 21 .aload_n .aload 3 22 := Or.inl ⟨3, by decide +kernel, rfl, rfl⟩
theorem d_X9_told_22 : pm_i e_X9_told 22 .iload_n .iload 2 23 := Or.inl ⟨2, by decide +kernel, rfl, rfl⟩
theorem d_X9_told_23_1 : pm_kV e_X9_told 23 e_X1_tell RX1 1 26 := ⟨107, by decide +kernel, rfl, fit_X9_told_X1_tell, wm_281, Or.inl ⟨wm_280, wm_282⟩⟩
theorem d_X9_told_23_2 : pm_kV e_X9_told 23 e_X2_tell RX2 1 26 := ⟨107, by decide +kernel, rfl, fit_X9_told_X2_tell, wm_285, Or.inr (Or.inr ⟨yX1_tell, RX1, _, _, _, wm_280, wm_283, wm_284, ⟨by decide +kernel, by decide +kernel⟩, wm_281, wm_299, by decide +kernel⟩)⟩
theorem d_X9_told_23_6 : pm_kV e_X9_told 23 e_X6_tell RX6 1 26 := ⟨107, by decide +kernel, rfl, fit_X9_told_X6_tell, wm_288, Or.inr (Or.inr ⟨yX1_tell, RX1, _, _, _, wm_280, wm_283, wm_287, ⟨by decide +kernel, by decide +kernel⟩, wm_281, wm_299, by decide +kernel⟩)⟩
theorem d_X9_told_23_7 : pm_kV e_X9_told 23 e_X6_tell RX7 1 26 := ⟨107, by decide +kernel, rfl, fit_X9_told_X6_tell, wm_288, Or.inr (Or.inr ⟨yX1_tell, RX1, _, _, _, wm_280, wm_283, wm_298, ⟨by decide +kernel, by decide +kernel⟩, wm_281, wm_299, by decide +kernel⟩)⟩
theorem d_X9_told_26 : pm_D e_X9_told 26 1 (.ireturn) 27 := ⟨by decide +kernel, rfl⟩
theorem d_X9_mark_0 : pm_i e_X9_mark 0 .aload_n .aload 0 1 := Or.inl ⟨0, by decide +kernel, rfl, rfl⟩
theorem d_X9_mark_1 : pm_i e_X9_mark 1 .iload_n .iload 1 2 := Or.inl ⟨1, by decide +kernel, rfl, rfl⟩
theorem d_X9_mark_2 : pm_kV e_X9_mark 2 e_X9_casterAt RX9 1 5 := ⟨103, by decide +kernel, rfl, fit_X9_mark_X9_casterAt, wm_278, Or.inl ⟨wm_276, wm_1⟩⟩
theorem d_X9_mark_5 : pm_i e_X9_mark 5 .astore_n .astore 3 6 := Or.inl ⟨3, by decide +kernel, rfl, rfl⟩
theorem d_X9_mark_6 : pm_i e_X9_mark 6 .aload_n .aload 3 7 := Or.inl ⟨3, by decide +kernel, rfl, rfl⟩
theorem d_X9_mark_7 : pm_B e_X9_mark 7 (fun z => .ifnull z) 20 10 := ⟨13, by decide +kernel, by decide, rfl⟩
theorem d_X9_mark_10 : pm_i e_X9_mark 10 .iload_n .iload 2 11 := Or.inl ⟨2, by decide +kernel, rfl, rfl⟩
theorem d_X9_mark_11 : pm_P e_X9_mark 11 1 12 := Or.inl ⟨1, by decide +kernel, by decide +kernel, rfl⟩
theorem d_X9_mark_12 : pm_B e_X9_mark 12 (fun z => .if_icmp .lt z) 20 15 := ⟨8, by decide +kernel, by decide, rfl⟩
theorem d_X9_mark_15 : pm_i e_X9_mark 15 .iload_n .iload 2 16 := Or.inl ⟨2, by decide +kernel, rfl, rfl⟩
theorem d_X9_mark_16 : pm_P e_X9_mark 16 3 17 := Or.inl ⟨3, by decide +kernel, by decide +kernel, rfl⟩
theorem d_X9_mark_17 : pm_B e_X9_mark 17 (fun z => .if_icmp .le z) 22 20 := ⟨5, by decide +kernel, by decide, rfl⟩
theorem d_X9_mark_20 : pm_P e_X9_mark 20 (-1) 21 := Or.inl ⟨-1, by decide +kernel, by decide +kernel, rfl⟩
theorem d_X9_mark_21 : pm_D e_X9_mark 21 1 (.ireturn) 22 := ⟨by decide +kernel, rfl⟩
theorem d_X9_mark_22 : pm_i e_X9_mark 22 .iload_n .iload 2 23 := Or.inl ⟨2, by decide +kernel, rfl, rfl⟩
theorem d_X9_mark_23 : pm_P e_X9_mark 23 1 24 := Or.inl ⟨1, by decide +kernel, by decide +kernel, rfl⟩
theorem d_X9_mark_24 : pm_B e_X9_mark 24 (fun z => .if_icmp .ne z) 52 27 := ⟨28, by decide +kernel, by decide, rfl⟩
theorem d_X9_mark_27 : pm_i e_X9_mark 27 .aload_n .aload 3 28 := Or.inl ⟨3, by decide +kernel, rfl, rfl⟩
theorem d_X9_mark_28 : pm_D e_X9_mark 28 3 (.instanceof 93) 31 := ⟨by decide +kernel, rfl⟩
theorem d_X9_mark_31 : pm_B e_X9_mark 31 (fun z => .ifCond .eq z) 52 34 := ⟨21, by decide +kernel, by decide, rfl⟩
theorem d_X9_mark_34 : pm_i e_X9_mark 34 .aload_n .aload 3 35 := Or.inl ⟨3, by decide +kernel, rfl, rfl⟩
theorem d_X9_mark_35 : pm_D e_X9_mark 35 3 (.checkcast 93) 38 := ⟨by decide +kernel, rfl⟩
theorem d_X9_mark_38 : pm_i e_X9_mark 38 .astore_n .astore 4 40 := Or.inr ⟨by decide +kernel, rfl⟩
theorem d_X9_mark_40 : pm_i e_X9_mark 40 .aload_n .aload 4 42 := Or.inr ⟨by decide +kernel, rfl⟩
theorem d_X9_mark_42 : pm_i e_X9_mark 42 .aload_n .aload 4 44 := Or.inr ⟨by decide +kernel, rfl⟩
theorem d_X9_mark_44 : pm_F e_X9_mark 44 .getfield (RX6, "bundle", "I") 47 := ⟨111, by decide +kernel, rfl, Or.inr ⟨_, wm_242⟩⟩
theorem d_X9_mark_47 : pm_P e_X9_mark 47 1 48 := Or.inl ⟨1, by decide +kernel, by decide +kernel, rfl⟩
theorem d_X9_mark_48_6 : pm_kV e_X9_mark 48 e_X6_leftOf RX6 2 51 := ⟨114, by decide +kernel, rfl, fit_X9_mark_X6_leftOf, wm_305, Or.inl ⟨wm_304, wm_306⟩⟩
theorem d_X9_mark_48_7 : pm_kV e_X9_mark 48 e_X6_leftOf RX7 2 51 := ⟨114, by decide +kernel, rfl, fit_X9_mark_X6_leftOf, wm_305, Or.inl ⟨wm_304, wm_308⟩⟩
theorem d_X9_mark_51 : pm_D e_X9_mark 51 1 (.ireturn) 52 := ⟨by decide +kernel, rfl⟩
theorem d_X9_mark_52 : pm_i e_X9_mark 52 .iload_n .iload 2 53 := Or.inl ⟨2, by decide +kernel, rfl, rfl⟩
theorem d_X9_mark_53 : pm_P e_X9_mark 53 2 54 := Or.inl ⟨2, by decide +kernel, by decide +kernel, rfl⟩
theorem d_X9_mark_54 : pm_B e_X9_mark 54 (fun z => .if_icmp .ne z) 66 57 := ⟨12, by decide +kernel, by decide, rfl⟩
theorem d_X9_mark_57 : pm_i e_X9_mark 57 .aload_n .aload 3 58 := Or.inl ⟨3, by decide +kernel, rfl, rfl⟩
theorem d_X9_mark_58 : pm_D e_X9_mark 58 3 (.instanceof 81) 61 := ⟨by decide +kernel, rfl⟩
theorem d_X9_mark_61 : pm_B e_X9_mark 61 (fun z => .ifCond .eq z) 66 64 := ⟨5, by decide +kernel, by decide, rfl⟩
theorem d_X9_mark_64 : pm_P e_X9_mark 64 4 65 := Or.inl ⟨4, by decide +kernel, by decide +kernel, rfl⟩
theorem d_X9_mark_65 : pm_D e_X9_mark 65 1 (.ireturn) 66 := ⟨by decide +kernel, rfl⟩
theorem d_X9_mark_66 : pm_i e_X9_mark 66 .iload_n .iload 2 67 := Or.inl ⟨2, by decide +kernel, rfl, rfl⟩
theorem d_X9_mark_67 : pm_P e_X9_mark 67 3 68 := Or.inl ⟨3, by decide +kernel, by decide +kernel, rfl⟩
theorem d_X9_mark_68 : pm_B e_X9_mark 68 (fun z => .if_icmp .ne z) 90 71 := ⟨22, by decide +kernel, by decide, rfl⟩
theorem d_X9_mark_71 : pm_i e_X9_mark 71 .aload_n .aload 3 72 := Or.inl ⟨3, by decide +kernel, rfl, rfl⟩
theorem d_X9_mark_72 : pm_D e_X9_mark 72 3 (.instanceof 98) 75 := ⟨by decide +kernel, rfl⟩
theorem d_X9_mark_75 : pm_B e_X9_mark 75 (fun z => .ifCond .eq z) 90 78 := ⟨15, by decide +kernel, by decide, rfl⟩
theorem d_X9_mark_78 : pm_i e_X9_mark 78 .aload_n .aload 3 79 := Or.inl ⟨3, by decide +kernel, rfl, rfl⟩
theorem d_X9_mark_79 : pm_D e_X9_mark 79 3 (.checkcast 98) 82 := ⟨by decide +kernel, rfl⟩
theorem d_X9_mark_82 : pm_i e_X9_mark 82 .astore_n .astore 4 84 := Or.inr ⟨by decide +kernel, rfl⟩
theorem d_X9_mark_84 : pm_i e_X9_mark 84 .aload_n .aload 4 86 := Or.inr ⟨by decide +kernel, rfl⟩
theorem d_X9_mark_86 : pm_kV e_X9_mark 86 e_X6_placesAtFirst RX7 0 89 := ⟨118, by decide +kernel, rfl, fit_X9_mark_X6_placesAtFirst, wm_318, Or.inr (Or.inr ⟨⟨"StalkRoom$Thumb", "placesAtFirst", "()I"⟩, RX6, _, _, _, wm_314, wm_315, wm_317, ⟨by decide +kernel, by decide +kernel⟩, wm_318, wm_319, by decide +kernel⟩)⟩
theorem d_X9_mark_89 : pm_D e_X9_mark 89 1 (.ireturn) 90 := ⟨by decide +kernel, rfl⟩
theorem d_X9_mark_90 : pm_i e_X9_mark 90 .aload_n .aload 0 91 := Or.inl ⟨0, by decide +kernel, rfl, rfl⟩
theorem d_X9_mark_91 : pm_P e_X9_mark 91 3 92 := Or.inl ⟨3, by decide +kernel, by decide +kernel, rfl⟩
theorem d_X9_mark_92 : pm_kV e_X9_mark 92 e_X9_found RX9 1 95 := ⟨122, by decide +kernel, rfl, fit_X9_mark_X9_found, wm_344, Or.inl ⟨wm_342, wm_3⟩⟩
theorem d_X9_mark_95 : pm_D e_X9_mark 95 1 (.ireturn) 96 := ⟨by decide +kernel, rfl⟩
theorem d_X9_part_0 : pm_i e_X9_part 0 .aload_n .aload 0 1 := Or.inl ⟨0, by decide +kernel, rfl, rfl⟩
theorem d_X9_part_1 : pm_i e_X9_part 1 .iload_n .iload 1 2 := Or.inl ⟨1, by decide +kernel, rfl, rfl⟩
theorem d_X9_part_2 : pm_kV e_X9_part 2 e_X9_casterAt RX9 1 5 := ⟨103, by decide +kernel, rfl, fit_X9_part_X9_casterAt, wm_278, Or.inl ⟨wm_276, wm_1⟩⟩
theorem d_X9_part_5 : pm_i e_X9_part 5 .astore_n .astore 4 7 := Or.inr ⟨by decide +kernel, rfl⟩
theorem d_X9_part_7 : pm_i e_X9_part 7 .aload_n .aload 4 9 := Or.inr ⟨by decide +kernel, rfl⟩
theorem d_X9_part_9 : pm_B e_X9_part 9 (fun z => .ifnull z) 22 12 := ⟨13, by decide +kernel, by decide, rfl⟩
theorem d_X9_part_12 : pm_i e_X9_part 12 .iload_n .iload 2 13 := Or.inl ⟨2, by decide +kernel, rfl, rfl⟩
theorem d_X9_part_13 : pm_B e_X9_part 13 (fun z => .ifCond .lt z) 22 16 := ⟨9, by decide +kernel, by decide, rfl⟩
theorem d_X9_part_16 : pm_i e_X9_part 16 .iload_n .iload 2 17 := Or.inl ⟨2, by decide +kernel, rfl, rfl⟩
theorem d_X9_part_17 : pm_P e_X9_part 17 60 19 := Or.inr <| Or.inl ⟨60, by decide +kernel, by decide +kernel, rfl⟩
theorem d_X9_part_19 : pm_B e_X9_part 19 (fun z => .if_icmp .le z) 24 22 := ⟨5, by decide +kernel, by decide, rfl⟩
theorem d_X9_part_22 : pm_P e_X9_part 22 (-1) 23 := Or.inl ⟨-1, by decide +kernel, by decide +kernel, rfl⟩
theorem d_X9_part_23 : pm_D e_X9_part 23 1 (.ireturn) 24 := ⟨by decide +kernel, rfl⟩
theorem d_X9_part_24 : pm_i e_X9_part 24 .aload_n .aload 4 26 := Or.inr ⟨by decide +kernel, rfl⟩
theorem d_X9_part_26 : pm_kS e_X9_part 26 e_X9_asStalks 1 29 := ⟨125, by decide +kernel, rfl, fit_X9_part_X9_asStalks, wm_351, Or.inl wm_350⟩
theorem d_X9_part_29 : pm_i e_X9_part 29 .astore_n .astore 5 31 := Or.inr ⟨by decide +kernel, rfl⟩
theorem d_X9_part_31 : pm_i e_X9_part 31 .aload_n .aload 5 33 := Or.inr ⟨by decide +kernel, rfl⟩
theorem d_X9_part_33 : pm_B e_X9_part 33 (fun z => .ifnonnull z) 42 36 := ⟨9, by decide +kernel, by decide, rfl⟩
theorem d_X9_part_36 : pm_i e_X9_part 36 .aload_n .aload 0 37 := Or.inl ⟨0, by decide +kernel, rfl, rfl⟩
theorem d_X9_part_37 : pm_P e_X9_part 37 3 38 := Or.inl ⟨3, by decide +kernel, by decide +kernel, rfl⟩
theorem d_X9_part_38 : pm_kV e_X9_part 38 e_X9_found RX9 1 41 := ⟨122, by decide +kernel, rfl, fit_X9_part_X9_found, wm_344, Or.inl ⟨wm_342, wm_3⟩⟩
theorem d_X9_part_41 : pm_D e_X9_part 41 1 (.ireturn) 42 := ⟨by decide +kernel, rfl⟩
theorem d_X9_part_42 : pm_i e_X9_part 42 .aload_n .aload 5 44 := Or.inr ⟨by decide +kernel, rfl⟩
theorem d_X9_part_44 : pm_i e_X9_part 44 .iload_n .iload 2 45 := Or.inl ⟨2, by decide +kernel, rfl, rfl⟩
theorem d_X9_part_45 : pm_i e_X9_part 45 .iload_n .iload 3 46 := Or.inl ⟨3, by decide +kernel, rfl, rfl⟩
theorem d_X9_part_46_6 : pm_kV e_X9_part 46 e_X6_partedAt RX6 2 49 := ⟨129, by decide +kernel, rfl, fit_X9_part_X6_partedAt, wm_354, Or.inl ⟨wm_353, wm_355⟩⟩
theorem d_X9_part_46_7 : pm_kV e_X9_part 46 e_X6_partedAt RX7 2 49 := ⟨129, by decide +kernel, rfl, fit_X9_part_X6_partedAt, wm_354, Or.inl ⟨wm_353, wm_357⟩⟩
theorem d_X9_part_49 : pm_i e_X9_part 49 .istore_n .istore 6 51 := Or.inr ⟨by decide +kernel, rfl⟩
theorem d_X9_part_51 : pm_i e_X9_part 51 .iload_n .iload 6 53 := Or.inr ⟨by decide +kernel, rfl⟩
theorem d_X9_part_53 : pm_B e_X9_part 53 (fun z => .ifCond .ge z) 64 56 := ⟨11, by decide +kernel, by decide, rfl⟩
theorem d_X9_part_56 : pm_i e_X9_part 56 .aload_n .aload 0 57 := Or.inl ⟨0, by decide +kernel, rfl, rfl⟩
theorem d_X9_part_57 : pm_P e_X9_part 57 2 58 := Or.inl ⟨2, by decide +kernel, by decide +kernel, rfl⟩
theorem d_X9_part_58 : pm_kV e_X9_part 58 e_X9_found RX9 1 61 := ⟨122, by decide +kernel, rfl, fit_X9_part_X9_found, wm_344, Or.inl ⟨wm_342, wm_3⟩⟩
theorem d_X9_part_61 : pm_B e_X9_part 61 (fun z => .goto z) 66 64 := ⟨5, by decide +kernel, by decide, rfl⟩
theorem d_X9_part_64 : pm_i e_X9_part 64 .iload_n .iload 6 66 := Or.inr ⟨by decide +kernel, rfl⟩
theorem d_X9_part_66 : pm_D e_X9_part 66 1 (.ireturn) 67 := ⟨by decide +kernel, rfl⟩
theorem d_X9_line_0 : pm_i e_X9_line 0 .aload_n .aload 0 1 := Or.inl ⟨0, by decide +kernel, rfl, rfl⟩
theorem d_X9_line_1 : pm_i e_X9_line 1 .iload_n .iload 1 2 := Or.inl ⟨1, by decide +kernel, rfl, rfl⟩
theorem d_X9_line_2 : pm_kV e_X9_line 2 e_X9_casterAt RX9 1 5 := ⟨103, by decide +kernel, rfl, fit_X9_line_X9_casterAt, wm_278, Or.inl ⟨wm_276, wm_1⟩⟩
theorem d_X9_line_5 : pm_i e_X9_line 5 .astore_n .astore 5 7 := Or.inr ⟨by decide +kernel, rfl⟩
theorem d_X9_line_7 : pm_i e_X9_line 7 .aload_n .aload 5 9 := Or.inr ⟨by decide +kernel, rfl⟩
theorem d_X9_line_9 : pm_B e_X9_line 9 (fun z => .ifnonnull z) 14 12 := ⟨5, by decide +kernel, by decide, rfl⟩
theorem d_X9_line_12 : pm_P e_X9_line 12 (-1) 13 := Or.inl ⟨-1, by decide +kernel, by decide +kernel, rfl⟩
theorem d_X9_line_13 : pm_D e_X9_line 13 1 (.ireturn) 14 := ⟨by decide +kernel, rfl⟩
theorem d_X9_line_14 : pm_i e_X9_line 14 .aload_n .aload 5 16 := Or.inr ⟨by decide +kernel, rfl⟩
theorem d_X9_line_16 : pm_kS e_X9_line 16 e_X9_asStalks 1 19 := ⟨125, by decide +kernel, rfl, fit_X9_line_X9_asStalks, wm_351, Or.inl wm_350⟩
theorem d_X9_line_19 : pm_i e_X9_line 19 .astore_n .astore 6 21 := Or.inr ⟨by decide +kernel, rfl⟩
theorem d_X9_line_21 : pm_i e_X9_line 21 .aload_n .aload 6 23 := Or.inr ⟨by decide +kernel, rfl⟩
theorem d_X9_line_23 : pm_B e_X9_line 23 (fun z => .ifnonnull z) 32 26 := ⟨9, by decide +kernel, by decide, rfl⟩
theorem d_X9_line_26 : pm_i e_X9_line 26 .aload_n .aload 0 27 := Or.inl ⟨0, by decide +kernel, rfl, rfl⟩
theorem d_X9_line_27 : pm_P e_X9_line 27 3 28 := Or.inl ⟨3, by decide +kernel, by decide +kernel, rfl⟩
theorem d_X9_line_28 : pm_kV e_X9_line 28 e_X9_found RX9 1 31 := ⟨122, by decide +kernel, rfl, fit_X9_line_X9_found, wm_344, Or.inl ⟨wm_342, wm_3⟩⟩
theorem d_X9_line_31 : pm_D e_X9_line 31 1 (.ireturn) 32 := ⟨by decide +kernel, rfl⟩
theorem d_X9_line_32 : pm_i e_X9_line 32 .aload_n .aload 6 34 := Or.inr ⟨by decide +kernel, rfl⟩
theorem d_X9_line_34 : pm_i e_X9_line 34 .aload_n .aload 6 36 := Or.inr ⟨by decide +kernel, rfl⟩
theorem d_X9_line_36 : pm_F e_X9_line 36 .getfield (RX6, "bundle", "I") 39 := ⟨111, by decide +kernel, rfl, Or.inr ⟨_, wm_242⟩⟩
theorem d_X9_line_39 : pm_i e_X9_line 39 .iload_n .iload 2 40 := Or.inl ⟨2, by decide +kernel, rfl, rfl⟩
theorem d_X9_line_40_6 : pm_kV e_X9_line 40 e_X6_partedAt RX6 2 43 := ⟨129, by decide +kernel, rfl, fit_X9_line_X6_partedAt, wm_354, Or.inl ⟨wm_353, wm_355⟩⟩
theorem d_X9_line_40_7 : pm_kV e_X9_line 40 e_X6_partedAt RX7 2 43 := ⟨129, by decide +kernel, rfl, fit_X9_line_X6_partedAt, wm_354, Or.inl ⟨wm_353, wm_357⟩⟩
theorem d_X9_line_43 : pm_i e_X9_line 43 .istore_n .istore 7 45 := Or.inr ⟨by decide +kernel, rfl⟩
theorem d_X9_line_45 : pm_i e_X9_line 45 .aload_n .aload 6 47 := Or.inr ⟨by decide +kernel, rfl⟩
theorem d_X9_line_47 : pm_i e_X9_line 47 .iload_n .iload 7 49 := Or.inr ⟨by decide +kernel, rfl⟩
theorem d_X9_line_49 : pm_i e_X9_line 49 .iload_n .iload 3 50 := Or.inl ⟨3, by decide +kernel, rfl, rfl⟩
theorem d_X9_line_50_6 : pm_kV e_X9_line 50 e_X6_partedAt RX6 2 53 := ⟨129, by decide +kernel, rfl, fit_X9_line_X6_partedAt, wm_354, Or.inl ⟨wm_353, wm_355⟩⟩
theorem d_X9_line_50_7 : pm_kV e_X9_line 50 e_X6_partedAt RX7 2 53 := ⟨129, by decide +kernel, rfl, fit_X9_line_X6_partedAt, wm_354, Or.inl ⟨wm_353, wm_357⟩⟩
theorem d_X9_line_53 : pm_i e_X9_line 53 .istore_n .istore 8 55 := Or.inr ⟨by decide +kernel, rfl⟩
theorem d_X9_line_55 : pm_i e_X9_line 55 .aload_n .aload 6 57 := Or.inr ⟨by decide +kernel, rfl⟩
theorem d_X9_line_57 : pm_i e_X9_line 57 .iload_n .iload 8 59 := Or.inr ⟨by decide +kernel, rfl⟩
theorem d_X9_line_59 : pm_i e_X9_line 59 .iload_n .iload 4 61 := Or.inr ⟨by decide +kernel, rfl⟩
theorem d_X9_line_61_6 : pm_kV e_X9_line 61 e_X6_partedAt RX6 2 64 := ⟨129, by decide +kernel, rfl, fit_X9_line_X6_partedAt, wm_354, Or.inl ⟨wm_353, wm_355⟩⟩
theorem d_X9_line_61_7 : pm_kV e_X9_line 61 e_X6_partedAt RX7 2 64 := ⟨129, by decide +kernel, rfl, fit_X9_line_X6_partedAt, wm_354, Or.inl ⟨wm_353, wm_357⟩⟩
theorem d_X9_line_64 : pm_i e_X9_line 64 .istore_n .istore 9 66 := Or.inr ⟨by decide +kernel, rfl⟩
theorem d_X9_line_66 : pm_i e_X9_line 66 .iload_n .iload 9 68 := Or.inr ⟨by decide +kernel, rfl⟩
theorem d_X9_line_68 : pm_B e_X9_line 68 (fun z => .ifCond .ge z) 79 71 := ⟨11, by decide +kernel, by decide, rfl⟩
theorem d_X9_line_71 : pm_i e_X9_line 71 .aload_n .aload 0 72 := Or.inl ⟨0, by decide +kernel, rfl, rfl⟩
theorem d_X9_line_72 : pm_P e_X9_line 72 2 73 := Or.inl ⟨2, by decide +kernel, by decide +kernel, rfl⟩
theorem d_X9_line_73 : pm_kV e_X9_line 73 e_X9_found RX9 1 76 := ⟨122, by decide +kernel, rfl, fit_X9_line_X9_found, wm_344, Or.inl ⟨wm_342, wm_3⟩⟩
theorem d_X9_line_76 : pm_B e_X9_line 76 (fun z => .goto z) 86 79 := ⟨10, by decide +kernel, by decide, rfl⟩
theorem d_X9_line_79 : pm_i e_X9_line 79 .aload_n .aload 6 81 := Or.inr ⟨by decide +kernel, rfl⟩
theorem d_X9_line_81 : pm_i e_X9_line 81 .iload_n .iload 9 83 := Or.inr ⟨by decide +kernel, rfl⟩
theorem d_X9_line_83_6 : pm_kV e_X9_line 83 e_X6_lineOf RX6 1 86 := ⟨132, by decide +kernel, rfl, fit_X9_line_X6_lineOf, wm_365, Or.inl ⟨wm_364, wm_366⟩⟩
theorem d_X9_line_83_7 : pm_kV e_X9_line 83 e_X6_lineOf RX7 1 86 := ⟨132, by decide +kernel, rfl, fit_X9_line_X6_lineOf, wm_365, Or.inl ⟨wm_364, wm_368⟩⟩
theorem d_X9_line_86 : pm_D e_X9_line 86 1 (.ireturn) 87 := ⟨by decide +kernel, rfl⟩
theorem d_X9_odds_0 : pm_i e_X9_odds 0 .aload_n .aload 0 1 := Or.inl ⟨0, by decide +kernel, rfl, rfl⟩
theorem d_X9_odds_1 : pm_i e_X9_odds 1 .iload_n .iload 1 2 := Or.inl ⟨1, by decide +kernel, rfl, rfl⟩
theorem d_X9_odds_2 : pm_kV e_X9_odds 2 e_X9_casterAt RX9 1 5 := ⟨103, by decide +kernel, rfl, fit_X9_odds_X9_casterAt, wm_278, Or.inl ⟨wm_276, wm_1⟩⟩
theorem d_X9_odds_5 : pm_i e_X9_odds 5 .astore_n .astore 3 6 := Or.inl ⟨3, by decide +kernel, rfl, rfl⟩
theorem d_X9_odds_6 : pm_i e_X9_odds 6 .aload_n .aload 3 7 := Or.inl ⟨3, by decide +kernel, rfl, rfl⟩
theorem d_X9_odds_7 : pm_B e_X9_odds 7 (fun z => .ifnull z) 20 10 := ⟨13, by decide +kernel, by decide, rfl⟩
theorem d_X9_odds_10 : pm_i e_X9_odds 10 .iload_n .iload 2 11 := Or.inl ⟨2, by decide +kernel, rfl, rfl⟩
theorem d_X9_odds_11 : pm_B e_X9_odds 11 (fun z => .ifCond .lt z) 20 14 := ⟨9, by decide +kernel, by decide, rfl⟩
theorem d_X9_odds_14 : pm_i e_X9_odds 14 .iload_n .iload 2 15 := Or.inl ⟨2, by decide +kernel, rfl, rfl⟩
theorem d_X9_odds_15 : pm_P e_X9_odds 15 30 17 := Or.inr <| Or.inl ⟨30, by decide +kernel, by decide +kernel, rfl⟩
theorem d_X9_odds_17 : pm_B e_X9_odds 17 (fun z => .if_icmp .le z) 22 20 := ⟨5, by decide +kernel, by decide, rfl⟩
theorem d_X9_odds_20 : pm_P e_X9_odds 20 (-1) 21 := Or.inl ⟨-1, by decide +kernel, by decide +kernel, rfl⟩
theorem d_X9_odds_21 : pm_D e_X9_odds 21 1 (.ireturn) 22 := ⟨by decide +kernel, rfl⟩
theorem d_X9_odds_22 : pm_i e_X9_odds 22 .aload_n .aload 3 23 := Or.inl ⟨3, by decide +kernel, rfl, rfl⟩
theorem d_X9_odds_23 : pm_i e_X9_odds 23 .aload_n .aload 0 24 := Or.inl ⟨0, by decide +kernel, rfl, rfl⟩
theorem d_X9_odds_24 : pm_F e_X9_odds 24 .getfield (RX9, "odds", "LStalkRoom$Odds;") 27 := ⟨53, by decide +kernel, rfl, Or.inl wm_168⟩
theorem d_X9_odds_27_1 : pm_kV e_X9_odds 27 e_X1_weigh RX1 1 30 := ⟨135, by decide +kernel, rfl, fit_X9_odds_X1_weigh, wm_375, Or.inl ⟨wm_374, wm_376⟩⟩
theorem d_X9_odds_27_2 : pm_kV e_X9_odds 27 e_X2_weigh RX2 1 30 := ⟨135, by decide +kernel, rfl, fit_X9_odds_X2_weigh, wm_379, Or.inr (Or.inr ⟨yX1_weigh, RX1, _, _, _, wm_374, wm_377, wm_378, ⟨by decide +kernel, by decide +kernel⟩, wm_375, wm_422, by decide +kernel⟩)⟩
theorem d_X9_odds_27_6 : pm_kV e_X9_odds 27 e_X6_weigh RX6 1 30 := ⟨135, by decide +kernel, rfl, fit_X9_odds_X6_weigh, wm_391, Or.inr (Or.inr ⟨yX1_weigh, RX1, _, _, _, wm_374, wm_377, wm_390, ⟨by decide +kernel, by decide +kernel⟩, wm_375, wm_422, by decide +kernel⟩)⟩
theorem d_X9_odds_27_7 : pm_kV e_X9_odds 27 e_X6_weigh RX7 1 30 := ⟨135, by decide +kernel, rfl, fit_X9_odds_X6_weigh, wm_391, Or.inr (Or.inr ⟨yX1_weigh, RX1, _, _, _, wm_374, wm_377, wm_421, ⟨by decide +kernel, by decide +kernel⟩, wm_375, wm_422, by decide +kernel⟩)⟩
theorem d_X9_odds_30 : pm_i e_X9_odds 30 .aload_n .aload 0 31 := Or.inl ⟨0, by decide +kernel, rfl, rfl⟩
theorem d_X9_odds_31 : pm_i e_X9_odds 31 .aload_n .aload 0 32 := Or.inl ⟨0, by decide +kernel, rfl, rfl⟩
theorem d_X9_odds_32 : pm_F e_X9_odds 32 .getfield (RX9, "odds", "LStalkRoom$Odds;") 35 := ⟨53, by decide +kernel, rfl, Or.inl wm_168⟩
theorem d_X9_odds_35 : pm_F e_X9_odds 35 .getfield (RX4, "weights", "[J") 38 := ⟨139, by decide +kernel, rfl, Or.inr ⟨_, wm_127⟩⟩
theorem d_X9_odds_38 : pm_i e_X9_odds 38 .iload_n .iload 2 39 := Or.inl ⟨2, by decide +kernel, rfl, rfl⟩
theorem d_X9_odds_39 : pm_D e_X9_odds 39 1 (.laload) 40 := ⟨by decide +kernel, rfl⟩
theorem d_X9_odds_40 : pm_i e_X9_odds 40 .aload_n .aload 0 41 := Or.inl ⟨0, by decide +kernel, rfl, rfl⟩
theorem d_X9_odds_41 : pm_F e_X9_odds 41 .getfield (RX9, "odds", "LStalkRoom$Odds;") 44 := ⟨53, by decide +kernel, rfl, Or.inl wm_168⟩
theorem d_X9_odds_44 : pm_F e_X9_odds 44 .getfield (RX4, "all", "J") 47 := ⟨143, by decide +kernel, rfl, Or.inr ⟨_, wm_134⟩⟩
theorem d_X9_odds_47 : pm_kV e_X9_odds 47 e_X9_tellFraction RX9 2 50 := ⟨146, by decide +kernel, rfl, fit_X9_odds_X9_tellFraction, wm_426, Or.inl ⟨wm_424, wm_7⟩⟩
theorem d_X9_odds_50 : pm_P e_X9_odds 50 1 51 := Or.inl ⟨1, by decide +kernel, by decide +kernel, rfl⟩
theorem d_X9_odds_51 : pm_D e_X9_odds 51 1 (.ireturn) 52 := ⟨by decide +kernel, rfl⟩
theorem d_X9_mean_0 : pm_i e_X9_mean 0 .aload_n .aload 0 1 := Or.inl ⟨0, by decide +kernel, rfl, rfl⟩
theorem d_X9_mean_1 : pm_i e_X9_mean 1 .iload_n .iload 1 2 := Or.inl ⟨1, by decide +kernel, rfl, rfl⟩
theorem d_X9_mean_2 : pm_kV e_X9_mean 2 e_X9_casterAt RX9 1 5 := ⟨103, by decide +kernel, rfl, fit_X9_mean_X9_casterAt, wm_278, Or.inl ⟨wm_276, wm_1⟩⟩
theorem d_X9_mean_5 : pm_i e_X9_mean 5 .astore_n .astore 2 6 := Or.inl ⟨2, by decide +kernel, rfl, rfl⟩
theorem d_X9_mean_6 : pm_i e_X9_mean 6 .aload_n .aload 2 7 := Or.inl ⟨2, by decide +kernel, rfl, rfl⟩
theorem d_X9_mean_7 : pm_B e_X9_mean 7 (fun z => .ifnonnull z) 12 10 := ⟨5, by decide +kernel, by decide, rfl⟩
theorem d_X9_mean_10 : pm_P e_X9_mean 10 (-1) 11 := Or.inl ⟨-1, by decide +kernel, by decide +kernel, rfl⟩
theorem d_X9_mean_11 : pm_D e_X9_mean 11 1 (.ireturn) 12 := ⟨by decide +kernel, rfl⟩
theorem d_X9_mean_12 : pm_i e_X9_mean 12 .aload_n .aload 2 13 := Or.inl ⟨2, by decide +kernel, rfl, rfl⟩
theorem d_X9_mean_13 : pm_i e_X9_mean 13 .aload_n .aload 0 14 := Or.inl ⟨0, by decide +kernel, rfl, rfl⟩
theorem d_X9_mean_14 : pm_F e_X9_mean 14 .getfield (RX9, "odds", "LStalkRoom$Odds;") 17 := ⟨53, by decide +kernel, rfl, Or.inl wm_168⟩
theorem d_X9_mean_17_1 : pm_kV e_X9_mean 17 e_X1_weigh RX1 1 20 := ⟨135, by decide +kernel, rfl, fit_X9_mean_X1_weigh, wm_375, Or.inl ⟨wm_374, wm_376⟩⟩
theorem d_X9_mean_17_2 : pm_kV e_X9_mean 17 e_X2_weigh RX2 1 20 := ⟨135, by decide +kernel, rfl, fit_X9_mean_X2_weigh, wm_379, Or.inr (Or.inr ⟨yX1_weigh, RX1, _, _, _, wm_374, wm_377, wm_378, ⟨by decide +kernel, by decide +kernel⟩, wm_375, wm_422, by decide +kernel⟩)⟩
theorem d_X9_mean_17_6 : pm_kV e_X9_mean 17 e_X6_weigh RX6 1 20 := ⟨135, by decide +kernel, rfl, fit_X9_mean_X6_weigh, wm_391, Or.inr (Or.inr ⟨yX1_weigh, RX1, _, _, _, wm_374, wm_377, wm_390, ⟨by decide +kernel, by decide +kernel⟩, wm_375, wm_422, by decide +kernel⟩)⟩
theorem d_X9_mean_17_7 : pm_kV e_X9_mean 17 e_X6_weigh RX7 1 20 := ⟨135, by decide +kernel, rfl, fit_X9_mean_X6_weigh, wm_391, Or.inr (Or.inr ⟨yX1_weigh, RX1, _, _, _, wm_374, wm_377, wm_421, ⟨by decide +kernel, by decide +kernel⟩, wm_375, wm_422, by decide +kernel⟩)⟩
theorem d_X9_mean_20 : pm_PL e_X9_mean 20 0 21 := Or.inl ⟨0, by decide +kernel, by decide +kernel, rfl⟩
theorem d_X9_mean_21 : pm_i e_X9_mean 21 .lstore_n .lstore 3 22 := Or.inl ⟨3, by decide +kernel, rfl, rfl⟩
theorem d_X9_mean_22 : pm_P e_X9_mean 22 0 23 := Or.inl ⟨0, by decide +kernel, by decide +kernel, rfl⟩
theorem d_X9_mean_23 : pm_i e_X9_mean 23 .istore_n .istore 5 25 := Or.inr ⟨by decide +kernel, rfl⟩
theorem d_X9_mean_25 : pm_i e_X9_mean 25 .iload_n .iload 5 27 := Or.inr ⟨by decide +kernel, rfl⟩
theorem d_X9_mean_27 : pm_P e_X9_mean 27 30 29 := Or.inr <| Or.inl ⟨30, by decide +kernel, by decide +kernel, rfl⟩
theorem d_X9_mean_29 : pm_B e_X9_mean 29 (fun z => .if_icmp .gt z) 55 32 := ⟨26, by decide +kernel, by decide, rfl⟩
theorem d_X9_mean_32 : pm_i e_X9_mean 32 .lload_n .lload 3 33 := Or.inl ⟨3, by decide +kernel, rfl, rfl⟩
theorem d_X9_mean_33 : pm_i e_X9_mean 33 .iload_n .iload 5 35 := Or.inr ⟨by decide +kernel, rfl⟩
theorem d_X9_mean_35 : pm_D e_X9_mean 35 1 (.i2l) 36 := ⟨by decide +kernel, rfl⟩
theorem d_X9_mean_36 : pm_i e_X9_mean 36 .aload_n .aload 0 37 := Or.inl ⟨0, by decide +kernel, rfl, rfl⟩
theorem d_X9_mean_37 : pm_F e_X9_mean 37 .getfield (RX9, "odds", "LStalkRoom$Odds;") 40 := ⟨53, by decide +kernel, rfl, Or.inl wm_168⟩
theorem d_X9_mean_40 : pm_F e_X9_mean 40 .getfield (RX4, "weights", "[J") 43 := ⟨139, by decide +kernel, rfl, Or.inr ⟨_, wm_127⟩⟩
theorem d_X9_mean_43 : pm_i e_X9_mean 43 .iload_n .iload 5 45 := Or.inr ⟨by decide +kernel, rfl⟩
theorem d_X9_mean_45 : pm_D e_X9_mean 45 1 (.laload) 46 := ⟨by decide +kernel, rfl⟩
theorem d_X9_mean_46 : pm_D e_X9_mean 46 1 (.lmul) 47 := ⟨by decide +kernel, rfl⟩
theorem d_X9_mean_47 : pm_D e_X9_mean 47 1 (.ladd) 48 := ⟨by decide +kernel, rfl⟩
theorem d_X9_mean_48 : pm_i e_X9_mean 48 .lstore_n .lstore 3 49 := Or.inl ⟨3, by decide +kernel, rfl, rfl⟩
theorem d_X9_mean_49 : pm_I e_X9_mean 49 5 1 52 := ⟨1, by decide +kernel, by decide +kernel, rfl⟩
theorem d_X9_mean_52 : pm_B e_X9_mean 52 (fun z => .goto z) 25 55 := ⟨-27, by decide +kernel, by decide, rfl⟩
theorem d_X9_mean_55 : pm_i e_X9_mean 55 .aload_n .aload 0 56 := Or.inl ⟨0, by decide +kernel, rfl, rfl⟩
theorem d_X9_mean_56 : pm_i e_X9_mean 56 .lload_n .lload 3 57 := Or.inl ⟨3, by decide +kernel, rfl, rfl⟩
theorem d_X9_mean_57 : pm_i e_X9_mean 57 .aload_n .aload 0 58 := Or.inl ⟨0, by decide +kernel, rfl, rfl⟩
theorem d_X9_mean_58 : pm_F e_X9_mean 58 .getfield (RX9, "odds", "LStalkRoom$Odds;") 61 := ⟨53, by decide +kernel, rfl, Or.inl wm_168⟩
theorem d_X9_mean_61 : pm_F e_X9_mean 61 .getfield (RX4, "all", "J") 64 := ⟨143, by decide +kernel, rfl, Or.inr ⟨_, wm_134⟩⟩
theorem d_X9_mean_64 : pm_kV e_X9_mean 64 e_X9_tellFraction RX9 2 67 := ⟨146, by decide +kernel, rfl, fit_X9_mean_X9_tellFraction, wm_426, Or.inl ⟨wm_424, wm_7⟩⟩
theorem d_X9_mean_67 : pm_P e_X9_mean 67 1 68 := Or.inl ⟨1, by decide +kernel, by decide +kernel, rfl⟩
theorem d_X9_mean_68 : pm_D e_X9_mean 68 1 (.ireturn) 69 := ⟨by decide +kernel, rfl⟩
theorem d_X9_drawn_0 : pm_i e_X9_drawn 0 .aload_n .aload 0 1 := Or.inl ⟨0, by decide +kernel, rfl, rfl⟩
theorem d_X9_drawn_1 : pm_i e_X9_drawn 1 .iload_n .iload 1 2 := Or.inl ⟨1, by decide +kernel, rfl, rfl⟩
theorem d_X9_drawn_2 : pm_kV e_X9_drawn 2 e_X9_casterAt RX9 1 5 := ⟨103, by decide +kernel, rfl, fit_X9_drawn_X9_casterAt, wm_278, Or.inl ⟨wm_276, wm_1⟩⟩
theorem d_X9_drawn_5 : pm_i e_X9_drawn 5 .astore_n .astore 4 7 := Or.inr ⟨by decide +kernel, rfl⟩
theorem d_X9_drawn_7 : pm_i e_X9_drawn 7 .aload_n .aload 4 9 := Or.inr ⟨by decide +kernel, rfl⟩
theorem d_X9_drawn_9 : pm_B e_X9_drawn 9 (fun z => .ifnonnull z) 14 12 := ⟨5, by decide +kernel, by decide, rfl⟩
theorem d_X9_drawn_12 : pm_P e_X9_drawn 12 (-1) 13 := Or.inl ⟨-1, by decide +kernel, by decide +kernel, rfl⟩
theorem d_X9_drawn_13 : pm_D e_X9_drawn 13 1 (.ireturn) 14 := ⟨by decide +kernel, rfl⟩
theorem d_X9_drawn_14 : pm_i e_X9_drawn 14 .aload_n .aload 0 15 := Or.inl ⟨0, by decide +kernel, rfl, rfl⟩
theorem d_X9_drawn_15 : pm_F e_X9_drawn 15 .getfield (RX9, "seed", "LStalkRoom$Seed;") 18 := ⟨46, by decide +kernel, rfl, Or.inl wm_167⟩
theorem d_X9_drawn_18 : pm_i e_X9_drawn 18 .lload_n .lload 2 19 := Or.inl ⟨2, by decide +kernel, rfl, rfl⟩
theorem d_X9_drawn_19 : pm_kV e_X9_drawn 19 e_X5_begin RX5 1 22 := ⟨150, by decide +kernel, rfl, fit_X9_drawn_X5_begin, wm_440, Or.inl ⟨wm_439, wm_441⟩⟩
theorem d_X9_drawn_22 : pm_i e_X9_drawn 22 .aload_n .aload 4 24 := Or.inr ⟨by decide +kernel, rfl⟩
theorem d_X9_drawn_24 : pm_i e_X9_drawn 24 .aload_n .aload 0 25 := Or.inl ⟨0, by decide +kernel, rfl, rfl⟩
theorem d_X9_drawn_25 : pm_F e_X9_drawn 25 .getfield (RX9, "seed", "LStalkRoom$Seed;") 28 := ⟨46, by decide +kernel, rfl, Or.inl wm_167⟩
theorem d_X9_drawn_28_1 : pm_kV e_X9_drawn 28 e_X1_castLine RX1 1 31 := ⟨154, by decide +kernel, rfl, fit_X9_drawn_X1_castLine, wm_444, Or.inl ⟨wm_443, wm_445⟩⟩
theorem d_X9_drawn_28_2 : pm_kV e_X9_drawn 28 e_X2_castLine RX2 1 31 := ⟨154, by decide +kernel, rfl, fit_X9_drawn_X2_castLine, wm_448, Or.inr (Or.inr ⟨yX1_castLine, RX1, _, _, _, wm_443, wm_446, wm_447, ⟨by decide +kernel, by decide +kernel⟩, wm_444, wm_461, by decide +kernel⟩)⟩
theorem d_X9_drawn_28_6 : pm_kV e_X9_drawn 28 e_X6_castLine RX6 1 31 := ⟨154, by decide +kernel, rfl, fit_X9_drawn_X6_castLine, wm_457, Or.inr (Or.inr ⟨yX1_castLine, RX1, _, _, _, wm_443, wm_446, wm_456, ⟨by decide +kernel, by decide +kernel⟩, wm_444, wm_461, by decide +kernel⟩)⟩
theorem d_X9_drawn_28_7 : pm_kV e_X9_drawn 28 e_X6_castLine RX7 1 31 := ⟨154, by decide +kernel, rfl, fit_X9_drawn_X6_castLine, wm_457, Or.inr (Or.inr ⟨yX1_castLine, RX1, _, _, _, wm_443, wm_446, wm_460, ⟨by decide +kernel, by decide +kernel⟩, wm_444, wm_461, by decide +kernel⟩)⟩
theorem d_X9_drawn_31 : pm_D e_X9_drawn 31 1 (.ireturn) 32 := ⟨by decide +kernel, rfl⟩
theorem d_X9_set_0 : pm_i e_X9_set 0 .aload_n .aload 0 1 := Or.inl ⟨0, by decide +kernel, rfl, rfl⟩
theorem d_X9_set_1 : pm_i e_X9_set 1 .iload_n .iload 1 2 := Or.inl ⟨1, by decide +kernel, rfl, rfl⟩
theorem d_X9_set_2 : pm_kV e_X9_set 2 e_X9_figureAt RX9 1 5 := ⟨158, by decide +kernel, rfl, fit_X9_set_X9_figureAt, wm_468, Or.inl ⟨wm_466, wm_8⟩⟩
theorem d_X9_set_5 : pm_i e_X9_set 5 .astore_n .astore 4 7 := Or.inr ⟨by decide +kernel, rfl⟩
theorem d_X9_set_7 : pm_i e_X9_set 7 .aload_n .aload 4 9 := Or.inr ⟨by decide +kernel, rfl⟩
theorem d_X9_set_9 : pm_B e_X9_set 9 (fun z => .ifnull z) 24 12 := ⟨15, by decide +kernel, by decide, rfl⟩
theorem d_X9_set_12 : pm_i e_X9_set 12 .iload_n .iload 3 13 := Or.inl ⟨3, by decide +kernel, rfl, rfl⟩
theorem d_X9_set_13 : pm_P e_X9_set 13 6 15 := Or.inr <| Or.inl ⟨6, by decide +kernel, by decide +kernel, rfl⟩
theorem d_X9_set_15 : pm_B e_X9_set 15 (fun z => .if_icmp .lt z) 24 18 := ⟨9, by decide +kernel, by decide, rfl⟩
theorem d_X9_set_18 : pm_i e_X9_set 18 .iload_n .iload 3 19 := Or.inl ⟨3, by decide +kernel, rfl, rfl⟩
theorem d_X9_set_19 : pm_P e_X9_set 19 9 21 := Or.inr <| Or.inl ⟨9, by decide +kernel, by decide +kernel, rfl⟩
theorem d_X9_set_21 : pm_B e_X9_set 21 (fun z => .if_icmp .le z) 26 24 := ⟨5, by decide +kernel, by decide, rfl⟩
theorem d_X9_set_24 : pm_P e_X9_set 24 (-1) 25 := Or.inl ⟨-1, by decide +kernel, by decide +kernel, rfl⟩
theorem d_X9_set_25 : pm_D e_X9_set 25 1 (.ireturn) 26 := ⟨by decide +kernel, rfl⟩
theorem d_X9_set_26 : pm_i e_X9_set 26 .iload_n .iload 2 27 := Or.inl ⟨2, by decide +kernel, rfl, rfl⟩
theorem d_X9_set_27 : pm_B e_X9_set 27 (fun z => .ifCond .lt z) 36 30 := ⟨9, by decide +kernel, by decide, rfl⟩
theorem d_X9_set_30 : pm_i e_X9_set 30 .iload_n .iload 2 31 := Or.inl ⟨2, by decide +kernel, rfl, rfl⟩
theorem d_X9_set_31 : pm_P e_X9_set 31 6 33 := Or.inr <| Or.inl ⟨6, by decide +kernel, by decide +kernel, rfl⟩
theorem d_X9_set_33 : pm_B e_X9_set 33 (fun z => .if_icmp .lt z) 42 36 := ⟨9, by decide +kernel, by decide, rfl⟩
theorem d_X9_set_36 : pm_i e_X9_set 36 .aload_n .aload 0 37 := Or.inl ⟨0, by decide +kernel, rfl, rfl⟩
theorem d_X9_set_37 : pm_P e_X9_set 37 2 38 := Or.inl ⟨2, by decide +kernel, by decide +kernel, rfl⟩
theorem d_X9_set_38 : pm_kV e_X9_set 38 e_X9_found RX9 1 41 := ⟨122, by decide +kernel, rfl, fit_X9_set_X9_found, wm_344, Or.inl ⟨wm_342, wm_3⟩⟩
theorem d_X9_set_41 : pm_D e_X9_set 41 1 (.ireturn) 42 := ⟨by decide +kernel, rfl⟩
theorem d_X9_set_42 : pm_i e_X9_set 42 .aload_n .aload 4 44 := Or.inr ⟨by decide +kernel, rfl⟩
theorem d_X9_set_44 : pm_F e_X9_set 44 .getfield (RX3, "lines", "[I") 47 := ⟨162, by decide +kernel, rfl, Or.inr ⟨_, wm_79⟩⟩
theorem d_X9_set_47 : pm_i e_X9_set 47 .iload_n .iload 2 48 := Or.inl ⟨2, by decide +kernel, rfl, rfl⟩
theorem d_X9_set_48 : pm_D e_X9_set 48 1 (.iaload) 49 := ⟨by decide +kernel, rfl⟩
theorem d_X9_set_49 : pm_i e_X9_set 49 .istore_n .istore 5 51 := Or.inr ⟨by decide +kernel, rfl⟩
theorem d_X9_set_51 : pm_i e_X9_set 51 .aload_n .aload 4 53 := Or.inr ⟨by decide +kernel, rfl⟩
theorem d_X9_set_53 : pm_F e_X9_set 53 .getfield (RX3, "lines", "[I") 56 := ⟨162, by decide +kernel, rfl, Or.inr ⟨_, wm_79⟩⟩
theorem d_X9_set_56 : pm_i e_X9_set 56 .iload_n .iload 2 57 := Or.inl ⟨2, by decide +kernel, rfl, rfl⟩
theorem d_X9_set_57 : pm_i e_X9_set 57 .iload_n .iload 3 58 := Or.inl ⟨3, by decide +kernel, rfl, rfl⟩
theorem d_X9_set_58 : pm_D e_X9_set 58 1 (.iastore) 59 := ⟨by decide +kernel, rfl⟩
theorem d_X9_set_59 : pm_i e_X9_set 59 .iload_n .iload 5 61 := Or.inr ⟨by decide +kernel, rfl⟩
theorem d_X9_set_61 : pm_D e_X9_set 61 1 (.ireturn) 62 := ⟨by decide +kernel, rfl⟩
theorem d_X9_get_0 : pm_i e_X9_get 0 .aload_n .aload 0 1 := Or.inl ⟨0, by decide +kernel, rfl, rfl⟩
theorem d_X9_get_1 : pm_i e_X9_get 1 .iload_n .iload 1 2 := Or.inl ⟨1, by decide +kernel, rfl, rfl⟩
theorem d_X9_get_2 : pm_kV e_X9_get 2 e_X9_figureAt RX9 1 5 := ⟨158, by decide +kernel, rfl, fit_X9_get_X9_figureAt, wm_468, Or.inl ⟨wm_466, wm_8⟩⟩
theorem d_X9_get_5 : pm_i e_X9_get 5 .astore_n .astore 3 6 := Or.inl ⟨3, by decide +kernel, rfl, rfl⟩
theorem d_X9_get_6 : pm_i e_X9_get 6 .aload_n .aload 3 7 := Or.inl ⟨3, by decide +kernel, rfl, rfl⟩
theorem d_X9_get_7 : pm_B e_X9_get 7 (fun z => .ifnonnull z) 12 10 := ⟨5, by decide +kernel, by decide, rfl⟩
theorem d_X9_get_10 : pm_P e_X9_get 10 (-1) 11 := Or.inl ⟨-1, by decide +kernel, by decide +kernel, rfl⟩
theorem d_X9_get_11 : pm_D e_X9_get 11 1 (.ireturn) 12 := ⟨by decide +kernel, rfl⟩
theorem d_X9_get_12 : pm_i e_X9_get 12 .iload_n .iload 2 13 := Or.inl ⟨2, by decide +kernel, rfl, rfl⟩
theorem d_X9_get_13 : pm_B e_X9_get 13 (fun z => .ifCond .lt z) 22 16 := ⟨9, by decide +kernel, by decide, rfl⟩
theorem d_X9_get_16 : pm_i e_X9_get 16 .iload_n .iload 2 17 := Or.inl ⟨2, by decide +kernel, rfl, rfl⟩
theorem d_X9_get_17 : pm_P e_X9_get 17 6 19 := Or.inr <| Or.inl ⟨6, by decide +kernel, by decide +kernel, rfl⟩
theorem d_X9_get_19 : pm_B e_X9_get 19 (fun z => .if_icmp .lt z) 28 22 := ⟨9, by decide +kernel, by decide, rfl⟩
theorem d_X9_get_22 : pm_i e_X9_get 22 .aload_n .aload 0 23 := Or.inl ⟨0, by decide +kernel, rfl, rfl⟩
theorem d_X9_get_23 : pm_P e_X9_get 23 2 24 := Or.inl ⟨2, by decide +kernel, by decide +kernel, rfl⟩
theorem d_X9_get_24 : pm_kV e_X9_get 24 e_X9_found RX9 1 27 := ⟨122, by decide +kernel, rfl, fit_X9_get_X9_found, wm_344, Or.inl ⟨wm_342, wm_3⟩⟩
theorem d_X9_get_27 : pm_D e_X9_get 27 1 (.ireturn) 28 := ⟨by decide +kernel, rfl⟩
theorem d_X9_get_28 : pm_i e_X9_get 28 .aload_n .aload 3 29 := Or.inl ⟨3, by decide +kernel, rfl, rfl⟩
theorem d_X9_get_29 : pm_F e_X9_get 29 .getfield (RX3, "lines", "[I") 32 := ⟨162, by decide +kernel, rfl, Or.inr ⟨_, wm_79⟩⟩
theorem d_X9_get_32 : pm_i e_X9_get 32 .iload_n .iload 2 33 := Or.inl ⟨2, by decide +kernel, rfl, rfl⟩
theorem d_X9_get_33 : pm_D e_X9_get 33 1 (.iaload) 34 := ⟨by decide +kernel, rfl⟩
theorem d_X9_get_34 : pm_D e_X9_get 34 1 (.ireturn) 35 := ⟨by decide +kernel, rfl⟩
theorem d_X9_draw_0 : pm_i e_X9_draw 0 .aload_n .aload 0 1 := Or.inl ⟨0, by decide +kernel, rfl, rfl⟩
theorem d_X9_draw_1 : pm_i e_X9_draw 1 .iload_n .iload 1 2 := Or.inl ⟨1, by decide +kernel, rfl, rfl⟩
theorem d_X9_draw_2 : pm_kV e_X9_draw 2 e_X9_figureAt RX9 1 5 := ⟨158, by decide +kernel, rfl, fit_X9_draw_X9_figureAt, wm_468, Or.inl ⟨wm_466, wm_8⟩⟩
theorem d_X9_draw_5 : pm_i e_X9_draw 5 .astore_n .astore 5 7 := Or.inr ⟨by decide +kernel, rfl⟩
theorem d_X9_draw_7 : pm_i e_X9_draw 7 .aload_n .aload 0 8 := Or.inl ⟨0, by decide +kernel, rfl, rfl⟩
theorem d_X9_draw_8 : pm_i e_X9_draw 8 .iload_n .iload 2 9 := Or.inl ⟨2, by decide +kernel, rfl, rfl⟩
theorem d_X9_draw_9 : pm_kV e_X9_draw 9 e_X9_casterAt RX9 1 12 := ⟨103, by decide +kernel, rfl, fit_X9_draw_X9_casterAt, wm_278, Or.inl ⟨wm_276, wm_1⟩⟩
theorem d_X9_draw_12 : pm_i e_X9_draw 12 .astore_n .astore 6 14 := Or.inr ⟨by decide +kernel, rfl⟩
theorem d_X9_draw_14 : pm_i e_X9_draw 14 .aload_n .aload 5 16 := Or.inr ⟨by decide +kernel, rfl⟩
theorem d_X9_draw_16 : pm_B e_X9_draw 16 (fun z => .ifnull z) 24 19 := ⟨8, by decide +kernel, by decide, rfl⟩
theorem d_X9_draw_19 : pm_i e_X9_draw 19 .aload_n .aload 6 21 := Or.inr ⟨by decide +kernel, rfl⟩
theorem d_X9_draw_21 : pm_B e_X9_draw 21 (fun z => .ifnonnull z) 26 24 := ⟨5, by decide +kernel, by decide, rfl⟩
theorem d_X9_draw_24 : pm_P e_X9_draw 24 (-1) 25 := Or.inl ⟨-1, by decide +kernel, by decide +kernel, rfl⟩
theorem d_X9_draw_25 : pm_D e_X9_draw 25 1 (.ireturn) 26 := ⟨by decide +kernel, rfl⟩
theorem d_X9_draw_26 : pm_i e_X9_draw 26 .aload_n .aload 0 27 := Or.inl ⟨0, by decide +kernel, rfl, rfl⟩
theorem d_X9_draw_27 : pm_F e_X9_draw 27 .getfield (RX9, "seed", "LStalkRoom$Seed;") 30 := ⟨46, by decide +kernel, rfl, Or.inl wm_167⟩
theorem d_X9_draw_30 : pm_i e_X9_draw 30 .lload_n .lload 3 31 := Or.inl ⟨3, by decide +kernel, rfl, rfl⟩
theorem d_X9_draw_31 : pm_kV e_X9_draw 31 e_X5_begin RX5 1 34 := ⟨150, by decide +kernel, rfl, fit_X9_draw_X5_begin, wm_440, Or.inl ⟨wm_439, wm_441⟩⟩
theorem d_X9_draw_34 : pm_i e_X9_draw 34 .aload_n .aload 0 35 := Or.inl ⟨0, by decide +kernel, rfl, rfl⟩
theorem d_X9_draw_35 : pm_F e_X9_draw 35 .getfield (RX9, "spare", "LStalkRoom$Figure;") 38 := ⟨26, by decide +kernel, rfl, Or.inl wm_164⟩
theorem d_X9_draw_38 : pm_i e_X9_draw 38 .aload_n .aload 6 40 := Or.inr ⟨by decide +kernel, rfl⟩
theorem d_X9_draw_40 : pm_i e_X9_draw 40 .aload_n .aload 0 41 := Or.inl ⟨0, by decide +kernel, rfl, rfl⟩
theorem d_X9_draw_41 : pm_F e_X9_draw 41 .getfield (RX9, "seed", "LStalkRoom$Seed;") 44 := ⟨46, by decide +kernel, rfl, Or.inl wm_167⟩
theorem d_X9_draw_44 : pm_kV e_X9_draw 44 e_X3_castBy RX3 2 47 := ⟨165, by decide +kernel, rfl, fit_X9_draw_X3_castBy, wm_479, Or.inl ⟨wm_478, wm_480⟩⟩
theorem d_X9_draw_47 : pm_B e_X9_draw 47 (fun z => .ifCond .ne z) 53 50 := ⟨6, by decide +kernel, by decide, rfl⟩
theorem d_X9_draw_50 : pm_P e_X9_draw 50 (-4) 52 := Or.inr <| Or.inl ⟨-4, by decide +kernel, by decide +kernel, rfl⟩
theorem d_X9_draw_52 : pm_D e_X9_draw 52 1 (.ireturn) 53 := ⟨by decide +kernel, rfl⟩
theorem d_X9_draw_53 : pm_i e_X9_draw 53 .aload_n .aload 5 55 := Or.inr ⟨by decide +kernel, rfl⟩
theorem d_X9_draw_55 : pm_i e_X9_draw 55 .aload_n .aload 0 56 := Or.inl ⟨0, by decide +kernel, rfl, rfl⟩
theorem d_X9_draw_56 : pm_F e_X9_draw 56 .getfield (RX9, "spare", "LStalkRoom$Figure;") 59 := ⟨26, by decide +kernel, rfl, Or.inl wm_164⟩
theorem d_X9_draw_59 : pm_kV e_X9_draw 59 e_X3_become RX3 1 62 := ⟨169, by decide +kernel, rfl, fit_X9_draw_X3_become, wm_484, Or.inl ⟨wm_483, wm_485⟩⟩
theorem d_X9_draw_62 : pm_i e_X9_draw 62 .aload_n .aload 5 64 := Or.inr ⟨by decide +kernel, rfl⟩
theorem d_X9_draw_64 : pm_kV e_X9_draw 64 e_X3_oldLines RX3 0 67 := ⟨173, by decide +kernel, rfl, fit_X9_draw_X3_oldLines, wm_489, Or.inl ⟨wm_488, wm_490⟩⟩
theorem d_X9_draw_67 : pm_D e_X9_draw 67 1 (.ireturn) 68 := ⟨by decide +kernel, rfl⟩
theorem d_X9_number_0 : pm_i e_X9_number 0 .aload_n .aload 0 1 := Or.inl ⟨0, by decide +kernel, rfl, rfl⟩
theorem d_X9_number_1 : pm_i e_X9_number 1 .iload_n .iload 1 2 := Or.inl ⟨1, by decide +kernel, rfl, rfl⟩
theorem d_X9_number_2 : pm_kV e_X9_number 2 e_X9_figureAt RX9 1 5 := ⟨158, by decide +kernel, rfl, fit_X9_number_X9_figureAt, wm_468, Or.inl ⟨wm_466, wm_8⟩⟩
theorem d_X9_number_5 : pm_i e_X9_number 5 .astore_n .astore 2 6 := Or.inl ⟨2, by decide +kernel, rfl, rfl⟩
theorem d_X9_number_6 : pm_i e_X9_number 6 .aload_n .aload 2 7 := Or.inl ⟨2, by decide +kernel, rfl, rfl⟩
theorem d_X9_number_7 : pm_B e_X9_number 7 (fun z => .ifnonnull z) 14 10 := ⟨7, by decide +kernel, by decide, rfl⟩
theorem d_X9_number_10 : pm_P e_X9_number 10 (-1) 11 := Or.inl ⟨-1, by decide +kernel, by decide +kernel, rfl⟩
theorem d_X9_number_11 : pm_B e_X9_number 11 (fun z => .goto z) 18 14 := ⟨7, by decide +kernel, by decide, rfl⟩
theorem d_X9_number_14 : pm_i e_X9_number 14 .aload_n .aload 2 15 := Or.inl ⟨2, by decide +kernel, rfl, rfl⟩
theorem d_X9_number_15 : pm_kV e_X9_number 15 e_X3_bits RX3 0 18 := ⟨176, by decide +kernel, rfl, fit_X9_number_X3_bits, wm_500, Or.inl ⟨wm_499, wm_501⟩⟩
theorem d_X9_number_18 : pm_D e_X9_number 18 1 (.ireturn) 19 := ⟨by decide +kernel, rfl⟩
theorem d_X9_act_0 : pm_i e_X9_act 0 .aload_n .aload 0 1 := Or.inl ⟨0, by decide +kernel, rfl, rfl⟩
theorem d_X9_act_1 : pm_i e_X9_act 1 .iload_n .iload 1 2 := Or.inl ⟨1, by decide +kernel, rfl, rfl⟩
theorem d_X9_act_2 : pm_kV e_X9_act 2 e_X9_figureAt RX9 1 5 := ⟨158, by decide +kernel, rfl, fit_X9_act_X9_figureAt, wm_468, Or.inl ⟨wm_466, wm_8⟩⟩
theorem d_X9_act_5 : pm_i e_X9_act 5 .astore_n .astore 4 7 := Or.inr ⟨by decide +kernel, rfl⟩
theorem d_X9_act_7 : pm_i e_X9_act 7 .aload_n .aload 0 8 := Or.inl ⟨0, by decide +kernel, rfl, rfl⟩
theorem d_X9_act_8 : pm_i e_X9_act 8 .iload_n .iload 3 9 := Or.inl ⟨3, by decide +kernel, rfl, rfl⟩
theorem d_X9_act_9 : pm_kV e_X9_act 9 e_X9_figureAt RX9 1 12 := ⟨158, by decide +kernel, rfl, fit_X9_act_X9_figureAt, wm_468, Or.inl ⟨wm_466, wm_8⟩⟩
theorem d_X9_act_12 : pm_i e_X9_act 12 .astore_n .astore 5 14 := Or.inr ⟨by decide +kernel, rfl⟩
theorem d_X9_act_14 : pm_i e_X9_act 14 .aload_n .aload 4 16 := Or.inr ⟨by decide +kernel, rfl⟩
theorem d_X9_act_16 : pm_B e_X9_act 16 (fun z => .ifnull z) 33 19 := ⟨17, by decide +kernel, by decide, rfl⟩
theorem d_X9_act_19 : pm_i e_X9_act 19 .aload_n .aload 5 21 := Or.inr ⟨by decide +kernel, rfl⟩
theorem d_X9_act_21 : pm_B e_X9_act 21 (fun z => .ifnull z) 33 24 := ⟨12, by decide +kernel, by decide, rfl⟩
theorem d_X9_act_24 : pm_i e_X9_act 24 .iload_n .iload 2 25 := Or.inl ⟨2, by decide +kernel, rfl, rfl⟩
theorem d_X9_act_25 : pm_B e_X9_act 25 (fun z => .ifCond .lt z) 33 28 := ⟨8, by decide +kernel, by decide, rfl⟩
theorem d_X9_act_28 : pm_i e_X9_act 28 .iload_n .iload 2 29 := Or.inl ⟨2, by decide +kernel, rfl, rfl⟩
theorem d_X9_act_29 : pm_P e_X9_act 29 3 30 := Or.inl ⟨3, by decide +kernel, by decide +kernel, rfl⟩
theorem d_X9_act_30 : pm_B e_X9_act 30 (fun z => .if_icmp .le z) 35 33 := ⟨5, by decide +kernel, by decide, rfl⟩
theorem d_X9_act_33 : pm_P e_X9_act 33 (-1) 34 := Or.inl ⟨-1, by decide +kernel, by decide +kernel, rfl⟩
theorem d_X9_act_34 : pm_D e_X9_act 34 1 (.ireturn) 35 := ⟨by decide +kernel, rfl⟩
theorem d_X9_act_35 : pm_i e_X9_act 35 .aload_n .aload 0 36 := Or.inl ⟨0, by decide +kernel, rfl, rfl⟩
theorem d_X9_act_36 : pm_F e_X9_act 36 .getfield (RX9, "spare", "LStalkRoom$Figure;") 39 := ⟨26, by decide +kernel, rfl, Or.inl wm_164⟩
theorem d_X9_act_39 : pm_i e_X9_act 39 .iload_n .iload 2 40 := Or.inl ⟨2, by decide +kernel, rfl, rfl⟩
theorem d_X9_act_40 : pm_i e_X9_act 40 .aload_n .aload 4 42 := Or.inr ⟨by decide +kernel, rfl⟩
theorem d_X9_act_42 : pm_kV e_X9_act 42 e_X3_becomeAfter RX3 2 45 := ⟨179, by decide +kernel, rfl, fit_X9_act_X3_becomeAfter, wm_508, Or.inl ⟨wm_507, wm_509⟩⟩
theorem d_X9_act_45 : pm_i e_X9_act 45 .aload_n .aload 5 47 := Or.inr ⟨by decide +kernel, rfl⟩
theorem d_X9_act_47 : pm_i e_X9_act 47 .aload_n .aload 0 48 := Or.inl ⟨0, by decide +kernel, rfl, rfl⟩
theorem d_X9_act_48 : pm_F e_X9_act 48 .getfield (RX9, "spare", "LStalkRoom$Figure;") 51 := ⟨26, by decide +kernel, rfl, Or.inl wm_164⟩
theorem d_X9_act_51 : pm_kV e_X9_act 51 e_X3_become RX3 1 54 := ⟨169, by decide +kernel, rfl, fit_X9_act_X3_become, wm_484, Or.inl ⟨wm_483, wm_485⟩⟩
theorem d_X9_act_54 : pm_i e_X9_act 54 .aload_n .aload 5 56 := Or.inr ⟨by decide +kernel, rfl⟩
theorem d_X9_act_56 : pm_kV e_X9_act 56 e_X3_bits RX3 0 59 := ⟨176, by decide +kernel, rfl, fit_X9_act_X3_bits, wm_500, Or.inl ⟨wm_499, wm_501⟩⟩
theorem d_X9_act_59 : pm_D e_X9_act 59 1 (.ireturn) 60 := ⟨by decide +kernel, rfl⟩
theorem d_X9_way_0 : pm_i e_X9_way 0 .iload_n .iload 1 1 := Or.inl ⟨1, by decide +kernel, rfl, rfl⟩
theorem d_X9_way_1 : pm_kS e_X9_way 1 e_X9_isNumber 1 4 := ⟨183, by decide +kernel, rfl, fit_X9_way_X9_isNumber, wm_519, Or.inl wm_518⟩
theorem d_X9_way_4 : pm_B e_X9_way 4 (fun z => .ifCond .eq z) 25 7 := ⟨21, by decide +kernel, by decide, rfl⟩
theorem d_X9_way_7 : pm_i e_X9_way 7 .iload_n .iload 2 8 := Or.inl ⟨2, by decide +kernel, rfl, rfl⟩
theorem d_X9_way_8 : pm_kS e_X9_way 8 e_X9_isNumber 1 11 := ⟨183, by decide +kernel, rfl, fit_X9_way_X9_isNumber, wm_519, Or.inl wm_518⟩
theorem d_X9_way_11 : pm_B e_X9_way 11 (fun z => .ifCond .eq z) 25 14 := ⟨14, by decide +kernel, by decide, rfl⟩
theorem d_X9_way_14 : pm_i e_X9_way 14 .iload_n .iload 3 15 := Or.inl ⟨3, by decide +kernel, rfl, rfl⟩
theorem d_X9_way_15 : pm_B e_X9_way 15 (fun z => .ifCond .lt z) 25 18 := ⟨10, by decide +kernel, by decide, rfl⟩
theorem d_X9_way_18 : pm_i e_X9_way 18 .iload_n .iload 3 19 := Or.inl ⟨3, by decide +kernel, rfl, rfl⟩
theorem d_X9_way_19 : pm_P e_X9_way 19 512 22 := Or.inr <| Or.inr <| Or.inl ⟨512, by decide +kernel, by decide +kernel, rfl⟩
theorem d_X9_way_22 : pm_B e_X9_way 22 (fun z => .if_icmp .lt z) 27 25 := ⟨5, by decide +kernel, by decide, rfl⟩
theorem d_X9_way_25 : pm_P e_X9_way 25 (-1) 26 := Or.inl ⟨-1, by decide +kernel, by decide +kernel, rfl⟩
theorem d_X9_way_26 : pm_D e_X9_way 26 1 (.ireturn) 27 := ⟨by decide +kernel, rfl⟩
theorem d_X9_way_27 : pm_i e_X9_way 27 .aload_n .aload 0 28 := Or.inl ⟨0, by decide +kernel, rfl, rfl⟩
theorem d_X9_way_28 : pm_F e_X9_way 28 .getfield (RX9, "finder", "LStalkRoom$WayFinder;") 31 := ⟨39, by decide +kernel, rfl, Or.inl wm_166⟩
theorem d_X9_way_31 : pm_i e_X9_way 31 .iload_n .iload 1 32 := Or.inl ⟨1, by decide +kernel, rfl, rfl⟩
theorem d_X9_way_32 : pm_i e_X9_way 32 .iload_n .iload 2 33 := Or.inl ⟨2, by decide +kernel, rfl, rfl⟩
theorem d_X9_way_33 : pm_i e_X9_way 33 .iload_n .iload 3 34 := Or.inl ⟨3, by decide +kernel, rfl, rfl⟩
theorem d_X9_way_34 : pm_kV e_X9_way 34 e_X8_find RX8 3 37 := ⟨187, by decide +kernel, rfl, fit_X9_way_X8_find, wm_522, Or.inl ⟨wm_521, wm_523⟩⟩
theorem d_X9_way_37 : pm_D e_X9_way 37 1 (.ireturn) 38 := ⟨by decide +kernel, rfl⟩
theorem d_X9_step_0 : pm_i e_X9_step 0 .aload_n .aload 0 1 := Or.inl ⟨0, by decide +kernel, rfl, rfl⟩
theorem d_X9_step_1 : pm_F e_X9_step 1 .getfield (RX9, "finder", "LStalkRoom$WayFinder;") 4 := ⟨39, by decide +kernel, rfl, Or.inl wm_166⟩
theorem d_X9_step_4 : pm_i e_X9_step 4 .iload_n .iload 1 5 := Or.inl ⟨1, by decide +kernel, rfl, rfl⟩
theorem d_X9_step_5 : pm_kV e_X9_step 5 e_X8_actAt RX8 1 8 := ⟨191, by decide +kernel, rfl, fit_X9_step_X8_actAt, wm_548, Or.inl ⟨wm_547, wm_549⟩⟩
theorem d_X9_step_8 : pm_D e_X9_step 8 1 (.ireturn) 9 := ⟨by decide +kernel, rfl⟩
theorem d_X9_row_0 : pm_i e_X9_row 0 .aload_n .aload 0 1 := Or.inl ⟨0, by decide +kernel, rfl, rfl⟩
theorem d_X9_row_1 : pm_i e_X9_row 1 .iload_n .iload 1 2 := Or.inl ⟨1, by decide +kernel, rfl, rfl⟩
theorem d_X9_row_2 : pm_kV e_X9_row 2 e_X9_rowAt RX9 1 5 := ⟨194, by decide +kernel, rfl, fit_X9_row_X9_rowAt, wm_557, Or.inl ⟨wm_555, wm_10⟩⟩
theorem d_X9_row_5 : pm_i e_X9_row 5 .astore_n .astore 3 6 := Or.inl ⟨3, by decide +kernel, rfl, rfl⟩
theorem d_X9_row_6 : pm_i e_X9_row 6 .aload_n .aload 3 7 := Or.inl ⟨3, by decide +kernel, rfl, rfl⟩
theorem d_X9_row_7 : pm_B e_X9_row 7 (fun z => .ifnull z) 16 10 := ⟨9, by decide +kernel, by decide, rfl⟩
theorem d_X9_row_10 : pm_i e_X9_row 10 .iload_n .iload 2 11 := Or.inl ⟨2, by decide +kernel, rfl, rfl⟩
theorem d_X9_row_11 : pm_P e_X9_row 11 64 13 := Or.inr <| Or.inl ⟨64, by decide +kernel, by decide +kernel, rfl⟩
theorem d_X9_row_13 : pm_B e_X9_row 13 (fun z => .if_icmp .le z) 18 16 := ⟨5, by decide +kernel, by decide, rfl⟩
theorem d_X9_row_16 : pm_P e_X9_row 16 (-1) 17 := Or.inl ⟨-1, by decide +kernel, by decide +kernel, rfl⟩
theorem d_X9_row_17 : pm_D e_X9_row 17 1 (.ireturn) 18 := ⟨by decide +kernel, rfl⟩
theorem d_X9_row_18 : pm_i e_X9_row 18 .iload_n .iload 2 19 := Or.inl ⟨2, by decide +kernel, rfl, rfl⟩
theorem d_X9_row_19 : pm_B e_X9_row 19 (fun z => .ifCond .ge z) 28 22 := ⟨9, by decide +kernel, by decide, rfl⟩
theorem d_X9_row_22 : pm_i e_X9_row 22 .aload_n .aload 0 23 := Or.inl ⟨0, by decide +kernel, rfl, rfl⟩
theorem d_X9_row_23 : pm_P e_X9_row 23 5 24 := Or.inl ⟨5, by decide +kernel, by decide +kernel, rfl⟩
theorem d_X9_row_24 : pm_kV e_X9_row 24 e_X9_found RX9 1 27 := ⟨122, by decide +kernel, rfl, fit_X9_row_X9_found, wm_344, Or.inl ⟨wm_342, wm_3⟩⟩
theorem d_X9_row_27 : pm_D e_X9_row 27 1 (.ireturn) 28 := ⟨by decide +kernel, rfl⟩
theorem d_X9_row_28 : pm_i e_X9_row 28 .aload_n .aload 3 29 := Or.inl ⟨3, by decide +kernel, rfl, rfl⟩
theorem d_X9_row_29 : pm_i e_X9_row 29 .iload_n .iload 2 30 := Or.inl ⟨2, by decide +kernel, rfl, rfl⟩
theorem d_X9_row_30 : pm_kV e_X9_row 30 e_X0_begin RX0 1 33 := ⟨198, by decide +kernel, rfl, fit_X9_row_X0_begin, wm_560, Or.inl ⟨wm_559, wm_561⟩⟩
theorem d_X9_row_33 : pm_i e_X9_row 33 .iload_n .iload 2 34 := Or.inl ⟨2, by decide +kernel, rfl, rfl⟩
theorem d_X9_row_34 : pm_D e_X9_row 34 1 (.ireturn) 35 := ⟨by decide +kernel, rfl⟩
theorem d_X9_lay_0 : pm_i e_X9_lay 0 .aload_n .aload 0 1 := Or.inl ⟨0, by decide +kernel, rfl, rfl⟩
theorem d_X9_lay_1 : pm_i e_X9_lay 1 .iload_n .iload 1 2 := Or.inl ⟨1, by decide +kernel, rfl, rfl⟩
theorem d_X9_lay_2 : pm_kV e_X9_lay 2 e_X9_rowAt RX9 1 5 := ⟨194, by decide +kernel, rfl, fit_X9_lay_X9_rowAt, wm_557, Or.inl ⟨wm_555, wm_10⟩⟩
theorem d_X9_lay_5 : pm_i e_X9_lay 5 .astore_n .astore 4 7 := Or.inr ⟨by decide +kernel, rfl⟩
theorem d_X9_lay_7 : pm_i e_X9_lay 7 .aload_n .aload 4 9 := Or.inr ⟨by decide +kernel, rfl⟩
theorem d_X9_lay_9 : pm_B e_X9_lay 9 (fun z => .ifnonnull z) 14 12 := ⟨5, by decide +kernel, by decide, rfl⟩
theorem d_X9_lay_12 : pm_P e_X9_lay 12 (-1) 13 := Or.inl ⟨-1, by decide +kernel, by decide +kernel, rfl⟩
theorem d_X9_lay_13 : pm_D e_X9_lay 13 1 (.ireturn) 14 := ⟨by decide +kernel, rfl⟩
theorem d_X9_lay_14 : pm_i e_X9_lay 14 .aload_n .aload 4 16 := Or.inr ⟨by decide +kernel, rfl⟩
theorem d_X9_lay_16 : pm_kV e_X9_lay 16 e_X0_isThere RX0 0 19 := ⟨201, by decide +kernel, rfl, fit_X9_lay_X0_isThere, wm_571, Or.inl ⟨wm_570, wm_572⟩⟩
theorem d_X9_lay_19 : pm_B e_X9_lay 19 (fun z => .ifCond .ne z) 28 22 := ⟨9, by decide +kernel, by decide, rfl⟩
theorem d_X9_lay_22 : pm_i e_X9_lay 22 .aload_n .aload 0 23 := Or.inl ⟨0, by decide +kernel, rfl, rfl⟩
theorem d_X9_lay_23 : pm_P e_X9_lay 23 1 24 := Or.inl ⟨1, by decide +kernel, by decide +kernel, rfl⟩
theorem d_X9_lay_24 : pm_kV e_X9_lay 24 e_X9_found RX9 1 27 := ⟨122, by decide +kernel, rfl, fit_X9_lay_X9_found, wm_344, Or.inl ⟨wm_342, wm_3⟩⟩
theorem d_X9_lay_27 : pm_D e_X9_lay 27 1 (.ireturn) 28 := ⟨by decide +kernel, rfl⟩
theorem d_X9_lay_28 : pm_i e_X9_lay 28 .iload_n .iload 2 29 := Or.inl ⟨2, by decide +kernel, rfl, rfl⟩
theorem d_X9_lay_29 : pm_B e_X9_lay 29 (fun z => .ifCond .lt z) 41 32 := ⟨12, by decide +kernel, by decide, rfl⟩
theorem d_X9_lay_32 : pm_i e_X9_lay 32 .iload_n .iload 2 33 := Or.inl ⟨2, by decide +kernel, rfl, rfl⟩
theorem d_X9_lay_33 : pm_i e_X9_lay 33 .aload_n .aload 4 35 := Or.inr ⟨by decide +kernel, rfl⟩
theorem d_X9_lay_35 : pm_F e_X9_lay 35 .getfield (RX0, "size", "I") 38 := ⟨205, by decide +kernel, rfl, Or.inr ⟨_, wm_154⟩⟩
theorem d_X9_lay_38 : pm_B e_X9_lay 38 (fun z => .if_icmp .lt z) 47 41 := ⟨9, by decide +kernel, by decide, rfl⟩
theorem d_X9_lay_41 : pm_i e_X9_lay 41 .aload_n .aload 0 42 := Or.inl ⟨0, by decide +kernel, rfl, rfl⟩
theorem d_X9_lay_42 : pm_P e_X9_lay 42 2 43 := Or.inl ⟨2, by decide +kernel, by decide +kernel, rfl⟩
theorem d_X9_lay_43 : pm_kV e_X9_lay 43 e_X9_found RX9 1 46 := ⟨122, by decide +kernel, rfl, fit_X9_lay_X9_found, wm_344, Or.inl ⟨wm_342, wm_3⟩⟩
theorem d_X9_lay_46 : pm_D e_X9_lay 46 1 (.ireturn) 47 := ⟨by decide +kernel, rfl⟩
theorem d_X9_lay_47 : pm_i e_X9_lay 47 .aload_n .aload 4 49 := Or.inr ⟨by decide +kernel, rfl⟩
theorem d_X9_lay_49 : pm_F e_X9_lay 49 .getfield (RX0, "bytes", "[B") 52 := ⟨208, by decide +kernel, rfl, Or.inr ⟨_, wm_152⟩⟩
theorem d_X9_lay_52 : pm_i e_X9_lay 52 .iload_n .iload 2 53 := Or.inl ⟨2, by decide +kernel, rfl, rfl⟩
theorem d_X9_lay_53 : pm_D e_X9_lay 53 1 (.baload) 54 := ⟨by decide +kernel, rfl⟩
theorem d_X9_lay_54 : pm_i e_X9_lay 54 .istore_n .istore 5 56 := Or.inr ⟨by decide +kernel, rfl⟩
theorem d_X9_lay_56 : pm_i e_X9_lay 56 .aload_n .aload 4 58 := Or.inr ⟨by decide +kernel, rfl⟩
theorem d_X9_lay_58 : pm_F e_X9_lay 58 .getfield (RX0, "bytes", "[B") 61 := ⟨208, by decide +kernel, rfl, Or.inr ⟨_, wm_152⟩⟩
theorem d_X9_lay_61 : pm_i e_X9_lay 61 .iload_n .iload 2 62 := Or.inl ⟨2, by decide +kernel, rfl, rfl⟩
theorem d_X9_lay_62 : pm_i e_X9_lay 62 .iload_n .iload 3 63 := Or.inl ⟨3, by decide +kernel, rfl, rfl⟩
theorem d_X9_lay_63 : pm_D e_X9_lay 63 1 (.i2b) 64 := ⟨by decide +kernel, rfl⟩
theorem d_X9_lay_64 : pm_D e_X9_lay 64 1 (.bastore) 65 := ⟨by decide +kernel, rfl⟩
theorem d_X9_lay_65 : pm_i e_X9_lay 65 .iload_n .iload 5 67 := Or.inr ⟨by decide +kernel, rfl⟩
theorem d_X9_lay_67 : pm_P e_X9_lay 67 1000 70 := Or.inr <| Or.inr <| Or.inl ⟨1000, by decide +kernel, by decide +kernel, rfl⟩
theorem d_X9_lay_70 : pm_D e_X9_lay 70 1 (.iadd) 71 := ⟨by decide +kernel, rfl⟩
theorem d_X9_lay_71 : pm_D e_X9_lay 71 1 (.ireturn) 72 := ⟨by decide +kernel, rfl⟩
theorem d_X9_tear_0 : pm_i e_X9_tear 0 .aload_n .aload 0 1 := Or.inl ⟨0, by decide +kernel, rfl, rfl⟩
theorem d_X9_tear_1 : pm_i e_X9_tear 1 .iload_n .iload 1 2 := Or.inl ⟨1, by decide +kernel, rfl, rfl⟩
theorem d_X9_tear_2 : pm_kV e_X9_tear 2 e_X9_rowAt RX9 1 5 := ⟨194, by decide +kernel, rfl, fit_X9_tear_X9_rowAt, wm_557, Or.inl ⟨wm_555, wm_10⟩⟩
theorem d_X9_tear_5 : pm_i e_X9_tear 5 .astore_n .astore 2 6 := Or.inl ⟨2, by decide +kernel, rfl, rfl⟩
theorem d_X9_tear_6 : pm_i e_X9_tear 6 .aload_n .aload 2 7 := Or.inl ⟨2, by decide +kernel, rfl, rfl⟩
theorem d_X9_tear_7 : pm_B e_X9_tear 7 (fun z => .ifnonnull z) 12 10 := ⟨5, by decide +kernel, by decide, rfl⟩
theorem d_X9_tear_10 : pm_P e_X9_tear 10 (-1) 11 := Or.inl ⟨-1, by decide +kernel, by decide +kernel, rfl⟩
theorem d_X9_tear_11 : pm_D e_X9_tear 11 1 (.ireturn) 12 := ⟨by decide +kernel, rfl⟩
theorem d_X9_tear_12 : pm_i e_X9_tear 12 .aload_n .aload 2 13 := Or.inl ⟨2, by decide +kernel, rfl, rfl⟩
theorem d_X9_tear_13 : pm_kV e_X9_tear 13 e_X0_isThere RX0 0 16 := ⟨201, by decide +kernel, rfl, fit_X9_tear_X0_isThere, wm_571, Or.inl ⟨wm_570, wm_572⟩⟩
theorem d_X9_tear_16 : pm_B e_X9_tear 16 (fun z => .ifCond .ne z) 25 19 := ⟨9, by decide +kernel, by decide, rfl⟩
theorem d_X9_tear_19 : pm_i e_X9_tear 19 .aload_n .aload 0 20 := Or.inl ⟨0, by decide +kernel, rfl, rfl⟩
theorem d_X9_tear_20 : pm_P e_X9_tear 20 1 21 := Or.inl ⟨1, by decide +kernel, by decide +kernel, rfl⟩
theorem d_X9_tear_21 : pm_kV e_X9_tear 21 e_X9_found RX9 1 24 := ⟨122, by decide +kernel, rfl, fit_X9_tear_X9_found, wm_344, Or.inl ⟨wm_342, wm_3⟩⟩
theorem d_X9_tear_24 : pm_D e_X9_tear 24 1 (.ireturn) 25 := ⟨by decide +kernel, rfl⟩
theorem d_X9_tear_25 : pm_i e_X9_tear 25 .aload_n .aload 2 26 := Or.inl ⟨2, by decide +kernel, rfl, rfl⟩
theorem d_X9_tear_26 : pm_P e_X9_tear 26 (-1) 27 := Or.inl ⟨-1, by decide +kernel, by decide +kernel, rfl⟩
theorem d_X9_tear_27 : pm_F e_X9_tear 27 .putfield (RX0, "size", "I") 30 := ⟨205, by decide +kernel, rfl, Or.inr ⟨_, wm_154⟩⟩
theorem d_X9_tear_30 : pm_P e_X9_tear 30 1 31 := Or.inl ⟨1, by decide +kernel, by decide +kernel, rfl⟩
theorem d_X9_tear_31 : pm_D e_X9_tear 31 1 (.ireturn) 32 := ⟨by decide +kernel, rfl⟩
theorem d_X9_copy_0 : pm_i e_X9_copy 0 .aload_n .aload 0 1 := Or.inl ⟨0, by decide +kernel, rfl, rfl⟩
theorem d_X9_copy_1 : pm_i e_X9_copy 1 .iload_n .iload 1 2 := Or.inl ⟨1, by decide +kernel, rfl, rfl⟩
theorem d_X9_copy_2 : pm_kV e_X9_copy 2 e_X9_rowAt RX9 1 5 := ⟨194, by decide +kernel, rfl, fit_X9_copy_X9_rowAt, wm_557, Or.inl ⟨wm_555, wm_10⟩⟩
theorem d_X9_copy_5 : pm_i e_X9_copy 5 .astore_n .astore 6 7 := Or.inr ⟨by decide +kernel, rfl⟩
theorem d_X9_copy_7 : pm_i e_X9_copy 7 .aload_n .aload 0 8 := Or.inl ⟨0, by decide +kernel, rfl, rfl⟩
theorem d_X9_copy_8 : pm_i e_X9_copy 8 .iload_n .iload 3 9 := Or.inl ⟨3, by decide +kernel, rfl, rfl⟩
theorem d_X9_copy_9 : pm_kV e_X9_copy 9 e_X9_rowAt RX9 1 12 := ⟨194, by decide +kernel, rfl, fit_X9_copy_X9_rowAt, wm_557, Or.inl ⟨wm_555, wm_10⟩⟩
theorem d_X9_copy_12 : pm_i e_X9_copy 12 .astore_n .astore 7 14 := Or.inr ⟨by decide +kernel, rfl⟩
theorem d_X9_copy_14 : pm_i e_X9_copy 14 .aload_n .aload 6 16 := Or.inr ⟨by decide +kernel, rfl⟩
theorem d_X9_copy_16 : pm_B e_X9_copy 16 (fun z => .ifnull z) 24 19 := ⟨8, by decide +kernel, by decide, rfl⟩
theorem d_X9_copy_19 : pm_i e_X9_copy 19 .aload_n .aload 7 21 := Or.inr ⟨by decide +kernel, rfl⟩
theorem d_X9_copy_21 : pm_B e_X9_copy 21 (fun z => .ifnonnull z) 26 24 := ⟨5, by decide +kernel, by decide, rfl⟩
theorem d_X9_copy_24 : pm_P e_X9_copy 24 (-1) 25 := Or.inl ⟨-1, by decide +kernel, by decide +kernel, rfl⟩
theorem d_X9_copy_25 : pm_D e_X9_copy 25 1 (.ireturn) 26 := ⟨by decide +kernel, rfl⟩
theorem d_X9_copy_26 : pm_i e_X9_copy 26 .iload_n .iload 5 28 := Or.inr ⟨by decide +kernel, rfl⟩
theorem d_X9_copy_28 : pm_B e_X9_copy 28 (fun z => .ifCond .ge z) 37 31 := ⟨9, by decide +kernel, by decide, rfl⟩
theorem d_X9_copy_31 : pm_i e_X9_copy 31 .aload_n .aload 0 32 := Or.inl ⟨0, by decide +kernel, rfl, rfl⟩
theorem d_X9_copy_32 : pm_P e_X9_copy 32 5 33 := Or.inl ⟨5, by decide +kernel, by decide +kernel, rfl⟩
theorem d_X9_copy_33 : pm_kV e_X9_copy 33 e_X9_found RX9 1 36 := ⟨122, by decide +kernel, rfl, fit_X9_copy_X9_found, wm_344, Or.inl ⟨wm_342, wm_3⟩⟩
theorem d_X9_copy_36 : pm_D e_X9_copy 36 1 (.ireturn) 37 := ⟨by decide +kernel, rfl⟩
theorem d_X9_copy_37 : pm_i e_X9_copy 37 .aload_n .aload 6 39 := Or.inr ⟨by decide +kernel, rfl⟩
theorem d_X9_copy_39 : pm_kV e_X9_copy 39 e_X0_isThere RX0 0 42 := ⟨201, by decide +kernel, rfl, fit_X9_copy_X0_isThere, wm_571, Or.inl ⟨wm_570, wm_572⟩⟩
theorem d_X9_copy_42 : pm_B e_X9_copy 42 (fun z => .ifCond .eq z) 53 45 := ⟨11, by decide +kernel, by decide, rfl⟩
theorem d_X9_copy_45 : pm_i e_X9_copy 45 .aload_n .aload 7 47 := Or.inr ⟨by decide +kernel, rfl⟩
theorem d_X9_copy_47 : pm_kV e_X9_copy 47 e_X0_isThere RX0 0 50 := ⟨201, by decide +kernel, rfl, fit_X9_copy_X0_isThere, wm_571, Or.inl ⟨wm_570, wm_572⟩⟩
theorem d_X9_copy_50 : pm_B e_X9_copy 50 (fun z => .ifCond .ne z) 59 53 := ⟨9, by decide +kernel, by decide, rfl⟩
theorem d_X9_copy_53 : pm_i e_X9_copy 53 .aload_n .aload 0 54 := Or.inl ⟨0, by decide +kernel, rfl, rfl⟩
theorem d_X9_copy_54 : pm_P e_X9_copy 54 1 55 := Or.inl ⟨1, by decide +kernel, by decide +kernel, rfl⟩
theorem d_X9_copy_55 : pm_kV e_X9_copy 55 e_X9_found RX9 1 58 := ⟨122, by decide +kernel, rfl, fit_X9_copy_X9_found, wm_344, Or.inl ⟨wm_342, wm_3⟩⟩
theorem d_X9_copy_58 : pm_D e_X9_copy 58 1 (.ireturn) 59 := ⟨by decide +kernel, rfl⟩
theorem d_X9_copy_59 : pm_i e_X9_copy 59 .aload_n .aload 6 61 := Or.inr ⟨by decide +kernel, rfl⟩
theorem d_X9_copy_61 : pm_i e_X9_copy 61 .iload_n .iload 2 62 := Or.inl ⟨2, by decide +kernel, rfl, rfl⟩
theorem d_X9_copy_62 : pm_i e_X9_copy 62 .iload_n .iload 5 64 := Or.inr ⟨by decide +kernel, rfl⟩
theorem d_X9_copy_64 : pm_kV e_X9_copy 64 e_X0_hasBytes RX0 2 67 := ⟨212, by decide +kernel, rfl, fit_X9_copy_X0_hasBytes, wm_583, Or.inl ⟨wm_582, wm_584⟩⟩
theorem d_X9_copy_67 : pm_B e_X9_copy 67 (fun z => .ifCond .eq z) 82 70 := ⟨15, by decide +kernel, by decide, rfl⟩
theorem d_X9_copy_70 : pm_i e_X9_copy 70 .aload_n .aload 7 72 := Or.inr ⟨by decide +kernel, rfl⟩
theorem d_X9_copy_72 : pm_i e_X9_copy 72 .iload_n .iload 4 74 := Or.inr ⟨by decide +kernel, rfl⟩
theorem d_X9_copy_74 : pm_i e_X9_copy 74 .iload_n .iload 5 76 := Or.inr ⟨by decide +kernel, rfl⟩
theorem d_X9_copy_76 : pm_kV e_X9_copy 76 e_X0_hasBytes RX0 2 79 := ⟨212, by decide +kernel, rfl, fit_X9_copy_X0_hasBytes, wm_583, Or.inl ⟨wm_582, wm_584⟩⟩
theorem d_X9_copy_79 : pm_B e_X9_copy 79 (fun z => .ifCond .ne z) 88 82 := ⟨9, by decide +kernel, by decide, rfl⟩
theorem d_X9_copy_82 : pm_i e_X9_copy 82 .aload_n .aload 0 83 := Or.inl ⟨0, by decide +kernel, rfl, rfl⟩
theorem d_X9_copy_83 : pm_P e_X9_copy 83 2 84 := Or.inl ⟨2, by decide +kernel, by decide +kernel, rfl⟩
theorem d_X9_copy_84 : pm_kV e_X9_copy 84 e_X9_found RX9 1 87 := ⟨122, by decide +kernel, rfl, fit_X9_copy_X9_found, wm_344, Or.inl ⟨wm_342, wm_3⟩⟩
theorem d_X9_copy_87 : pm_D e_X9_copy 87 1 (.ireturn) 88 := ⟨by decide +kernel, rfl⟩
theorem d_X9_copy_88 : pm_i e_X9_copy 88 .aload_n .aload 6 90 := Or.inr ⟨by decide +kernel, rfl⟩
theorem d_X9_copy_90 : pm_F e_X9_copy 90 .getfield (RX0, "bytes", "[B") 93 := ⟨208, by decide +kernel, rfl, Or.inr ⟨_, wm_152⟩⟩
theorem d_X9_copy_93 : pm_i e_X9_copy 93 .iload_n .iload 2 94 := Or.inl ⟨2, by decide +kernel, rfl, rfl⟩
theorem d_X9_copy_94 : pm_i e_X9_copy 94 .aload_n .aload 7 96 := Or.inr ⟨by decide +kernel, rfl⟩
theorem d_X9_copy_96 : pm_F e_X9_copy 96 .getfield (RX0, "bytes", "[B") 99 := ⟨208, by decide +kernel, rfl, Or.inr ⟨_, wm_152⟩⟩
theorem d_X9_copy_99 : pm_i e_X9_copy 99 .iload_n .iload 4 101 := Or.inr ⟨by decide +kernel, rfl⟩
theorem d_X9_copy_101 : pm_i e_X9_copy 101 .iload_n .iload 5 103 := Or.inr ⟨by decide +kernel, rfl⟩
theorem d_X9_copy_103 : pm_D e_X9_copy 103 3 (.invokestatic 215) 106 := ⟨by decide +kernel, rfl⟩
theorem d_X9_copy_106 : pm_P e_X9_copy 106 1 107 := Or.inl ⟨1, by decide +kernel, by decide +kernel, rfl⟩
theorem d_X9_copy_107 : pm_D e_X9_copy 107 1 (.ireturn) 108 := ⟨by decide +kernel, rfl⟩
theorem d_X9_misfits_0 : pm_i e_X9_misfits 0 .aload_n .aload 0 1 := Or.inl ⟨0, by decide +kernel, rfl, rfl⟩
theorem d_X9_misfits_1 : pm_i e_X9_misfits 1 .iload_n .iload 1 2 := Or.inl ⟨1, by decide +kernel, rfl, rfl⟩
theorem d_X9_misfits_2 : pm_kV e_X9_misfits 2 e_X9_rowAt RX9 1 5 := ⟨194, by decide +kernel, rfl, fit_X9_misfits_X9_rowAt, wm_557, Or.inl ⟨wm_555, wm_10⟩⟩
theorem d_X9_misfits_5 : pm_i e_X9_misfits 5 .astore_n .astore 3 6 := Or.inl ⟨3, by decide +kernel, rfl, rfl⟩
theorem d_X9_misfits_6 : pm_i e_X9_misfits 6 .aload_n .aload 3 7 := Or.inl ⟨3, by decide +kernel, rfl, rfl⟩
theorem d_X9_misfits_7 : pm_B e_X9_misfits 7 (fun z => .ifnull z) 17 10 := ⟨10, by decide +kernel, by decide, rfl⟩
theorem d_X9_misfits_10 : pm_i e_X9_misfits 10 .iload_n .iload 2 11 := Or.inl ⟨2, by decide +kernel, rfl, rfl⟩
theorem d_X9_misfits_11 : pm_kS e_X9_misfits 11 e_X9_isOrder 1 14 := ⟨221, by decide +kernel, rfl, fit_X9_misfits_X9_isOrder, wm_592, Or.inl wm_591⟩
theorem d_X9_misfits_14 : pm_B e_X9_misfits 14 (fun z => .ifCond .ne z) 19 17 := ⟨5, by decide +kernel, by decide, rfl⟩
theorem d_X9_misfits_17 : pm_P e_X9_misfits 17 (-1) 18 := Or.inl ⟨-1, by decide +kernel, by decide +kernel, rfl⟩
theorem d_X9_misfits_18 : pm_D e_X9_misfits 18 1 (.ireturn) 19 := ⟨by decide +kernel, rfl⟩
theorem d_X9_misfits_19 : pm_i e_X9_misfits 19 .aload_n .aload 3 20 := Or.inl ⟨3, by decide +kernel, rfl, rfl⟩
theorem d_X9_misfits_20 : pm_kV e_X9_misfits 20 e_X0_isThere RX0 0 23 := ⟨201, by decide +kernel, rfl, fit_X9_misfits_X0_isThere, wm_571, Or.inl ⟨wm_570, wm_572⟩⟩
theorem d_X9_misfits_23 : pm_B e_X9_misfits 23 (fun z => .ifCond .ne z) 32 26 := ⟨9, by decide +kernel, by decide, rfl⟩
theorem d_X9_misfits_26 : pm_i e_X9_misfits 26 .aload_n .aload 0 27 := Or.inl ⟨0, by decide +kernel, rfl, rfl⟩
theorem d_X9_misfits_27 : pm_P e_X9_misfits 27 1 28 := Or.inl ⟨1, by decide +kernel, by decide +kernel, rfl⟩
theorem d_X9_misfits_28 : pm_kV e_X9_misfits 28 e_X9_found RX9 1 31 := ⟨122, by decide +kernel, rfl, fit_X9_misfits_X9_found, wm_344, Or.inl ⟨wm_342, wm_3⟩⟩
theorem d_X9_misfits_31 : pm_D e_X9_misfits 31 1 (.ireturn) 32 := ⟨by decide +kernel, rfl⟩
theorem d_X9_misfits_32 : pm_i e_X9_misfits 32 .aload_n .aload 3 33 := Or.inl ⟨3, by decide +kernel, rfl, rfl⟩
theorem d_X9_misfits_33 : pm_i e_X9_misfits 33 .iload_n .iload 2 34 := Or.inl ⟨2, by decide +kernel, rfl, rfl⟩
theorem d_X9_misfits_34 : pm_kV e_X9_misfits 34 e_X0_misfitsIn RX0 1 37 := ⟨224, by decide +kernel, rfl, fit_X9_misfits_X0_misfitsIn, wm_595, Or.inl ⟨wm_594, wm_596⟩⟩
theorem d_X9_misfits_37 : pm_D e_X9_misfits 37 1 (.ireturn) 38 := ⟨by decide +kernel, rfl⟩
theorem d_X9_follows_0 : pm_i e_X9_follows 0 .aload_n .aload 0 1 := Or.inl ⟨0, by decide +kernel, rfl, rfl⟩
theorem d_X9_follows_1 : pm_i e_X9_follows 1 .iload_n .iload 1 2 := Or.inl ⟨1, by decide +kernel, rfl, rfl⟩
theorem d_X9_follows_2 : pm_kV e_X9_follows 2 e_X9_rowAt RX9 1 5 := ⟨194, by decide +kernel, rfl, fit_X9_follows_X9_rowAt, wm_557, Or.inl ⟨wm_555, wm_10⟩⟩
theorem d_X9_follows_5 : pm_i e_X9_follows 5 .astore_n .astore 2 6 := Or.inl ⟨2, by decide +kernel, rfl, rfl⟩
theorem d_X9_follows_6 : pm_i e_X9_follows 6 .aload_n .aload 2 7 := Or.inl ⟨2, by decide +kernel, rfl, rfl⟩
theorem d_X9_follows_7 : pm_B e_X9_follows 7 (fun z => .ifnonnull z) 12 10 := ⟨5, by decide +kernel, by decide, rfl⟩
theorem d_X9_follows_10 : pm_P e_X9_follows 10 (-1) 11 := Or.inl ⟨-1, by decide +kernel, by decide +kernel, rfl⟩
theorem d_X9_follows_11 : pm_D e_X9_follows 11 1 (.ireturn) 12 := ⟨by decide +kernel, rfl⟩
theorem d_X9_follows_12 : pm_i e_X9_follows 12 .aload_n .aload 2 13 := Or.inl ⟨2, by decide +kernel, rfl, rfl⟩
theorem d_X9_follows_13 : pm_kV e_X9_follows 13 e_X0_isThere RX0 0 16 := ⟨201, by decide +kernel, rfl, fit_X9_follows_X0_isThere, wm_571, Or.inl ⟨wm_570, wm_572⟩⟩
theorem d_X9_follows_16 : pm_B e_X9_follows 16 (fun z => .ifCond .ne z) 25 19 := ⟨9, by decide +kernel, by decide, rfl⟩
theorem d_X9_follows_19 : pm_i e_X9_follows 19 .aload_n .aload 0 20 := Or.inl ⟨0, by decide +kernel, rfl, rfl⟩
theorem d_X9_follows_20 : pm_P e_X9_follows 20 1 21 := Or.inl ⟨1, by decide +kernel, by decide +kernel, rfl⟩
theorem d_X9_follows_21 : pm_kV e_X9_follows 21 e_X9_found RX9 1 24 := ⟨122, by decide +kernel, rfl, fit_X9_follows_X9_found, wm_344, Or.inl ⟨wm_342, wm_3⟩⟩
theorem d_X9_follows_24 : pm_D e_X9_follows 24 1 (.ireturn) 25 := ⟨by decide +kernel, rfl⟩
theorem d_X9_follows_25 : pm_P e_X9_follows 25 0 26 := Or.inl ⟨0, by decide +kernel, by decide +kernel, rfl⟩
theorem d_X9_follows_26 : pm_i e_X9_follows 26 .istore_n .istore 3 27 := Or.inl ⟨3, by decide +kernel, rfl, rfl⟩
theorem d_X9_follows_27 : pm_i e_X9_follows 27 .aload_n .aload 2 28 := Or.inl ⟨2, by decide +kernel, rfl, rfl⟩
theorem d_X9_follows_28 : pm_P e_X9_follows 28 0 29 := Or.inl ⟨0, by decide +kernel, by decide +kernel, rfl⟩
theorem d_X9_follows_29 : pm_kV e_X9_follows 29 e_X0_misfitsIn RX0 1 32 := ⟨224, by decide +kernel, rfl, fit_X9_follows_X0_misfitsIn, wm_595, Or.inl ⟨wm_594, wm_596⟩⟩
theorem d_X9_follows_32 : pm_i e_X9_follows 32 .istore_n .istore 4 34 := Or.inr ⟨by decide +kernel, rfl⟩
theorem d_X9_follows_34 : pm_P e_X9_follows 34 1 35 := Or.inl ⟨1, by decide +kernel, by decide +kernel, rfl⟩
theorem d_X9_follows_35 : pm_i e_X9_follows 35 .istore_n .istore 5 37 := Or.inr ⟨by decide +kernel, rfl⟩
theorem d_X9_follows_37 : pm_i e_X9_follows 37 .iload_n .iload 5 39 := Or.inr ⟨by decide +kernel, rfl⟩
theorem d_X9_follows_39 : pm_P e_X9_follows 39 2 40 := Or.inl ⟨2, by decide +kernel, by decide +kernel, rfl⟩
theorem d_X9_follows_40 : pm_B e_X9_follows 40 (fun z => .if_icmp .gt z) 71 43 := ⟨31, by decide +kernel, by decide, rfl⟩
theorem d_X9_follows_43 : pm_i e_X9_follows 43 .aload_n .aload 2 44 := Or.inl ⟨2, by decide +kernel, rfl, rfl⟩
theorem d_X9_follows_44 : pm_i e_X9_follows 44 .iload_n .iload 5 46 := Or.inr ⟨by decide +kernel, rfl⟩
theorem d_X9_follows_46 : pm_kV e_X9_follows 46 e_X0_misfitsIn RX0 1 49 := ⟨224, by decide +kernel, rfl, fit_X9_follows_X0_misfitsIn, wm_595, Or.inl ⟨wm_594, wm_596⟩⟩
theorem d_X9_follows_49 : pm_i e_X9_follows 49 .istore_n .istore 6 51 := Or.inr ⟨by decide +kernel, rfl⟩
theorem d_X9_follows_51 : pm_i e_X9_follows 51 .iload_n .iload 6 53 := Or.inr ⟨by decide +kernel, rfl⟩
theorem d_X9_follows_53 : pm_i e_X9_follows 53 .iload_n .iload 4 55 := Or.inr ⟨by decide +kernel, rfl⟩
theorem d_X9_follows_55 : pm_B e_X9_follows 55 (fun z => .if_icmp .ge z) 65 58 := ⟨10, by decide +kernel, by decide, rfl⟩
theorem d_X9_follows_58 : pm_i e_X9_follows 58 .iload_n .iload 6 60 := Or.inr ⟨by decide +kernel, rfl⟩
theorem d_X9_follows_60 : pm_i e_X9_follows 60 .istore_n .istore 4 62 := Or.inr ⟨by decide +kernel, rfl⟩
theorem d_X9_follows_62 : pm_i e_X9_follows 62 .iload_n .iload 5 64 := Or.inr ⟨by decide +kernel, rfl⟩
theorem d_X9_follows_64 : pm_i e_X9_follows 64 .istore_n .istore 3 65 := Or.inl ⟨3, by decide +kernel, rfl, rfl⟩
theorem d_X9_follows_65 : pm_I e_X9_follows 65 5 1 68 := ⟨1, by decide +kernel, by decide +kernel, rfl⟩
theorem d_X9_follows_68 : pm_B e_X9_follows 68 (fun z => .goto z) 37 71 := ⟨-31, by decide +kernel, by decide, rfl⟩
theorem d_X9_follows_71 : pm_i e_X9_follows 71 .aload_n .aload 0 72 := Or.inl ⟨0, by decide +kernel, rfl, rfl⟩
theorem d_X9_follows_72 : pm_i e_X9_follows 72 .iload_n .iload 4 74 := Or.inr ⟨by decide +kernel, rfl⟩
theorem d_X9_follows_74 : pm_D e_X9_follows 74 1 (.i2l) 75 := ⟨by decide +kernel, rfl⟩
theorem d_X9_follows_75 : pm_F e_X9_follows 75 .putfield (RX9, "lastAsked", "J") 78 := ⟨70, by decide +kernel, rfl, Or.inl wm_173⟩
theorem d_X9_follows_78 : pm_i e_X9_follows 78 .iload_n .iload 3 79 := Or.inl ⟨3, by decide +kernel, rfl, rfl⟩
theorem d_X9_follows_79 : pm_D e_X9_follows 79 1 (.ireturn) 80 := ⟨by decide +kernel, rfl⟩
theorem d_X9_lacks_0 : pm_i e_X9_lacks 0 .aload_n .aload 0 1 := Or.inl ⟨0, by decide +kernel, rfl, rfl⟩
theorem d_X9_lacks_1 : pm_i e_X9_lacks 1 .iload_n .iload 1 2 := Or.inl ⟨1, by decide +kernel, rfl, rfl⟩
theorem d_X9_lacks_2 : pm_kV e_X9_lacks 2 e_X9_rowAt RX9 1 5 := ⟨194, by decide +kernel, rfl, fit_X9_lacks_X9_rowAt, wm_557, Or.inl ⟨wm_555, wm_10⟩⟩
theorem d_X9_lacks_5 : pm_i e_X9_lacks 5 .astore_n .astore 2 6 := Or.inl ⟨2, by decide +kernel, rfl, rfl⟩
theorem d_X9_lacks_6 : pm_i e_X9_lacks 6 .aload_n .aload 2 7 := Or.inl ⟨2, by decide +kernel, rfl, rfl⟩
theorem d_X9_lacks_7 : pm_B e_X9_lacks 7 (fun z => .ifnonnull z) 12 10 := ⟨5, by decide +kernel, by decide, rfl⟩
theorem d_X9_lacks_10 : pm_P e_X9_lacks 10 (-1) 11 := Or.inl ⟨-1, by decide +kernel, by decide +kernel, rfl⟩
theorem d_X9_lacks_11 : pm_D e_X9_lacks 11 1 (.ireturn) 12 := ⟨by decide +kernel, rfl⟩
theorem d_X9_lacks_12 : pm_i e_X9_lacks 12 .aload_n .aload 2 13 := Or.inl ⟨2, by decide +kernel, rfl, rfl⟩
theorem d_X9_lacks_13 : pm_kV e_X9_lacks 13 e_X0_isThere RX0 0 16 := ⟨201, by decide +kernel, rfl, fit_X9_lacks_X0_isThere, wm_571, Or.inl ⟨wm_570, wm_572⟩⟩
theorem d_X9_lacks_16 : pm_B e_X9_lacks 16 (fun z => .ifCond .ne z) 25 19 := ⟨9, by decide +kernel, by decide, rfl⟩
theorem d_X9_lacks_19 : pm_i e_X9_lacks 19 .aload_n .aload 0 20 := Or.inl ⟨0, by decide +kernel, rfl, rfl⟩
theorem d_X9_lacks_20 : pm_P e_X9_lacks 20 1 21 := Or.inl ⟨1, by decide +kernel, by decide +kernel, rfl⟩
theorem d_X9_lacks_21 : pm_kV e_X9_lacks 21 e_X9_found RX9 1 24 := ⟨122, by decide +kernel, rfl, fit_X9_lacks_X9_found, wm_344, Or.inl ⟨wm_342, wm_3⟩⟩
theorem d_X9_lacks_24 : pm_D e_X9_lacks 24 1 (.ireturn) 25 := ⟨by decide +kernel, rfl⟩
theorem d_X9_lacks_25 : pm_i e_X9_lacks 25 .aload_n .aload 0 26 := Or.inl ⟨0, by decide +kernel, rfl, rfl⟩
theorem d_X9_lacks_26 : pm_i e_X9_lacks 26 .aload_n .aload 2 27 := Or.inl ⟨2, by decide +kernel, rfl, rfl⟩
theorem d_X9_lacks_27 : pm_kV e_X9_lacks 27 e_X0_numbersThere RX0 0 30 := ⟨227, by decide +kernel, rfl, fit_X9_lacks_X0_numbersThere, wm_618, Or.inl ⟨wm_617, wm_619⟩⟩
theorem d_X9_lacks_30 : pm_PL e_X9_lacks 30 (-1) 33 := Or.inr ⟨231, by decide +kernel, wm_621, rfl⟩
theorem d_X9_lacks_33 : pm_D e_X9_lacks 33 1 (.lxor) 34 := ⟨by decide +kernel, rfl⟩
theorem d_X9_lacks_34 : pm_F e_X9_lacks 34 .putfield (RX9, "lastAsked", "J") 37 := ⟨70, by decide +kernel, rfl, Or.inl wm_173⟩
theorem d_X9_lacks_37 : pm_i e_X9_lacks 37 .aload_n .aload 0 38 := Or.inl ⟨0, by decide +kernel, rfl, rfl⟩
theorem d_X9_lacks_38 : pm_F e_X9_lacks 38 .getfield (RX9, "lastAsked", "J") 41 := ⟨70, by decide +kernel, rfl, Or.inl wm_173⟩
theorem d_X9_lacks_41 : pm_kS e_X9_lacks 41 e_J13_bitCount_95d88 1 44 := ⟨233, by decide +kernel, rfl, fit_X9_lacks_J13_bitCount_95d88, wm_623, Or.inl wm_622⟩
theorem d_X9_lacks_44 : pm_D e_X9_lacks 44 1 (.ireturn) 45 := ⟨by decide +kernel, rfl⟩
theorem d_X9_swapped_0 : pm_i e_X9_swapped 0 .aload_n .aload 0 1 := Or.inl ⟨0, by decide +kernel, rfl, rfl⟩
theorem d_X9_swapped_1 : pm_i e_X9_swapped 1 .iload_n .iload 1 2 := Or.inl ⟨1, by decide +kernel, rfl, rfl⟩
theorem d_X9_swapped_2 : pm_kV e_X9_swapped 2 e_X9_rowAt RX9 1 5 := ⟨194, by decide +kernel, rfl, fit_X9_swapped_X9_rowAt, wm_557, Or.inl ⟨wm_555, wm_10⟩⟩
theorem d_X9_swapped_5 : pm_i e_X9_swapped 5 .astore_n .astore 3 6 := Or.inl ⟨3, by decide +kernel, rfl, rfl⟩
theorem d_X9_swapped_6 : pm_i e_X9_swapped 6 .aload_n .aload 3 7 := Or.inl ⟨3, by decide +kernel, rfl, rfl⟩
theorem d_X9_swapped_7 : pm_B e_X9_swapped 7 (fun z => .ifnull z) 17 10 := ⟨10, by decide +kernel, by decide, rfl⟩
theorem d_X9_swapped_10 : pm_i e_X9_swapped 10 .iload_n .iload 2 11 := Or.inl ⟨2, by decide +kernel, rfl, rfl⟩
theorem d_X9_swapped_11 : pm_kS e_X9_swapped 11 e_X9_isOrder 1 14 := ⟨221, by decide +kernel, rfl, fit_X9_swapped_X9_isOrder, wm_592, Or.inl wm_591⟩
theorem d_X9_swapped_14 : pm_B e_X9_swapped 14 (fun z => .ifCond .ne z) 19 17 := ⟨5, by decide +kernel, by decide, rfl⟩
theorem d_X9_swapped_17 : pm_P e_X9_swapped 17 (-1) 18 := Or.inl ⟨-1, by decide +kernel, by decide +kernel, rfl⟩
theorem d_X9_swapped_18 : pm_D e_X9_swapped 18 1 (.ireturn) 19 := ⟨by decide +kernel, rfl⟩
theorem d_X9_swapped_19 : pm_i e_X9_swapped 19 .aload_n .aload 3 20 := Or.inl ⟨3, by decide +kernel, rfl, rfl⟩
theorem d_X9_swapped_20 : pm_kV e_X9_swapped 20 e_X0_isThere RX0 0 23 := ⟨201, by decide +kernel, rfl, fit_X9_swapped_X0_isThere, wm_571, Or.inl ⟨wm_570, wm_572⟩⟩
theorem d_X9_swapped_23 : pm_B e_X9_swapped 23 (fun z => .ifCond .ne z) 32 26 := ⟨9, by decide +kernel, by decide, rfl⟩
theorem d_X9_swapped_26 : pm_i e_X9_swapped 26 .aload_n .aload 0 27 := Or.inl ⟨0, by decide +kernel, rfl, rfl⟩
theorem d_X9_swapped_27 : pm_P e_X9_swapped 27 1 28 := Or.inl ⟨1, by decide +kernel, by decide +kernel, rfl⟩
theorem d_X9_swapped_28 : pm_kV e_X9_swapped 28 e_X9_found RX9 1 31 := ⟨122, by decide +kernel, rfl, fit_X9_swapped_X9_found, wm_344, Or.inl ⟨wm_342, wm_3⟩⟩
theorem d_X9_swapped_31 : pm_D e_X9_swapped 31 1 (.ireturn) 32 := ⟨by decide +kernel, rfl⟩
theorem d_X9_swapped_32 : pm_i e_X9_swapped 32 .aload_n .aload 3 33 := Or.inl ⟨3, by decide +kernel, rfl, rfl⟩
theorem d_X9_swapped_33 : pm_i e_X9_swapped 33 .iload_n .iload 2 34 := Or.inl ⟨2, by decide +kernel, rfl, rfl⟩
theorem d_X9_swapped_34 : pm_kV e_X9_swapped 34 e_X0_mendingSwap RX0 1 37 := ⟨239, by decide +kernel, rfl, fit_X9_swapped_X0_mendingSwap, wm_633, Or.inl ⟨wm_632, wm_634⟩⟩
theorem d_X9_swapped_37 : pm_D e_X9_swapped 37 1 (.ireturn) 38 := ⟨by decide +kernel, rfl⟩
theorem d_X9_record_0 : pm_i e_X9_record 0 .aload_n .aload 0 1 := Or.inl ⟨0, by decide +kernel, rfl, rfl⟩
theorem d_X9_record_1 : pm_i e_X9_record 1 .iload_n .iload 1 2 := Or.inl ⟨1, by decide +kernel, rfl, rfl⟩
theorem d_X9_record_2 : pm_kV e_X9_record 2 e_X9_rowAt RX9 1 5 := ⟨194, by decide +kernel, rfl, fit_X9_record_X9_rowAt, wm_557, Or.inl ⟨wm_555, wm_10⟩⟩
theorem d_X9_record_5 : pm_i e_X9_record 5 .astore_n .astore 6 7 := Or.inr ⟨by decide +kernel, rfl⟩
theorem d_X9_record_7 : pm_i e_X9_record 7 .aload_n .aload 0 8 := Or.inl ⟨0, by decide +kernel, rfl, rfl⟩
theorem d_X9_record_8 : pm_i e_X9_record 8 .iload_n .iload 2 9 := Or.inl ⟨2, by decide +kernel, rfl, rfl⟩
theorem d_X9_record_9 : pm_kV e_X9_record 9 e_X9_casterAt RX9 1 12 := ⟨103, by decide +kernel, rfl, fit_X9_record_X9_casterAt, wm_278, Or.inl ⟨wm_276, wm_1⟩⟩
theorem d_X9_record_12 : pm_i e_X9_record 12 .astore_n .astore 7 14 := Or.inr ⟨by decide +kernel, rfl⟩
theorem d_X9_record_14 : pm_i e_X9_record 14 .aload_n .aload 6 16 := Or.inr ⟨by decide +kernel, rfl⟩
theorem d_X9_record_16 : pm_B e_X9_record 16 (fun z => .ifnull z) 36 19 := ⟨20, by decide +kernel, by decide, rfl⟩
theorem d_X9_record_19 : pm_i e_X9_record 19 .aload_n .aload 7 21 := Or.inr ⟨by decide +kernel, rfl⟩
theorem d_X9_record_21 : pm_B e_X9_record 21 (fun z => .ifnull z) 36 24 := ⟨15, by decide +kernel, by decide, rfl⟩
theorem d_X9_record_24 : pm_i e_X9_record 24 .iload_n .iload 5 26 := Or.inr ⟨by decide +kernel, rfl⟩
theorem d_X9_record_26 : pm_B e_X9_record 26 (fun z => .ifCond .lt z) 36 29 := ⟨10, by decide +kernel, by decide, rfl⟩
theorem d_X9_record_29 : pm_i e_X9_record 29 .iload_n .iload 5 31 := Or.inr ⟨by decide +kernel, rfl⟩
theorem d_X9_record_31 : pm_P e_X9_record 31 64 33 := Or.inr <| Or.inl ⟨64, by decide +kernel, by decide +kernel, rfl⟩
theorem d_X9_record_33 : pm_B e_X9_record 33 (fun z => .if_icmp .le z) 38 36 := ⟨5, by decide +kernel, by decide, rfl⟩
theorem d_X9_record_36 : pm_P e_X9_record 36 (-1) 37 := Or.inl ⟨-1, by decide +kernel, by decide +kernel, rfl⟩
theorem d_X9_record_37 : pm_D e_X9_record 37 1 (.ireturn) 38 := ⟨by decide +kernel, rfl⟩
theorem d_X9_record_38 : pm_i e_X9_record 38 .aload_n .aload 6 40 := Or.inr ⟨by decide +kernel, rfl⟩
theorem d_X9_record_40 : pm_i e_X9_record 40 .iload_n .iload 5 42 := Or.inr ⟨by decide +kernel, rfl⟩
theorem d_X9_record_42 : pm_kV e_X9_record 42 e_X0_begin RX0 1 45 := ⟨198, by decide +kernel, rfl, fit_X9_record_X0_begin, wm_560, Or.inl ⟨wm_559, wm_561⟩⟩
theorem d_X9_record_45 : pm_i e_X9_record 45 .aload_n .aload 0 46 := Or.inl ⟨0, by decide +kernel, rfl, rfl⟩
theorem d_X9_record_46 : pm_F e_X9_record 46 .getfield (RX9, "seed", "LStalkRoom$Seed;") 49 := ⟨46, by decide +kernel, rfl, Or.inl wm_167⟩
theorem d_X9_record_49 : pm_i e_X9_record 49 .lload_n .lload 3 50 := Or.inl ⟨3, by decide +kernel, rfl, rfl⟩
theorem d_X9_record_50 : pm_kV e_X9_record 50 e_X5_begin RX5 1 53 := ⟨150, by decide +kernel, rfl, fit_X9_record_X5_begin, wm_440, Or.inl ⟨wm_439, wm_441⟩⟩
theorem d_X9_record_53 : pm_P e_X9_record 53 0 54 := Or.inl ⟨0, by decide +kernel, by decide +kernel, rfl⟩
theorem d_X9_record_54 : pm_i e_X9_record 54 .istore_n .istore 8 56 := Or.inr ⟨by decide +kernel, rfl⟩
theorem d_X9_record_56 : pm_i e_X9_record 56 .iload_n .iload 8 58 := Or.inr ⟨by decide +kernel, rfl⟩
theorem d_X9_record_58 : pm_i e_X9_record 58 .iload_n .iload 5 60 := Or.inr ⟨by decide +kernel, rfl⟩
theorem d_X9_record_60 : pm_B e_X9_record 60 (fun z => .if_icmp .ge z) 87 63 := ⟨27, by decide +kernel, by decide, rfl⟩
theorem d_X9_record_63 : pm_i e_X9_record 63 .aload_n .aload 6 65 := Or.inr ⟨by decide +kernel, rfl⟩
theorem d_X9_record_65 : pm_F e_X9_record 65 .getfield (RX0, "bytes", "[B") 68 := ⟨208, by decide +kernel, rfl, Or.inr ⟨_, wm_152⟩⟩
theorem d_X9_record_68 : pm_i e_X9_record 68 .iload_n .iload 8 70 := Or.inr ⟨by decide +kernel, rfl⟩
theorem d_X9_record_70 : pm_i e_X9_record 70 .aload_n .aload 7 72 := Or.inr ⟨by decide +kernel, rfl⟩
theorem d_X9_record_72 : pm_i e_X9_record 72 .aload_n .aload 0 73 := Or.inl ⟨0, by decide +kernel, rfl, rfl⟩
theorem d_X9_record_73 : pm_F e_X9_record 73 .getfield (RX9, "seed", "LStalkRoom$Seed;") 76 := ⟨46, by decide +kernel, rfl, Or.inl wm_167⟩
theorem d_X9_record_76_1 : pm_kV e_X9_record 76 e_X1_castLine RX1 1 79 := ⟨154, by decide +kernel, rfl, fit_X9_record_X1_castLine, wm_444, Or.inl ⟨wm_443, wm_445⟩⟩
theorem d_X9_record_76_2 : pm_kV e_X9_record 76 e_X2_castLine RX2 1 79 := ⟨154, by decide +kernel, rfl, fit_X9_record_X2_castLine, wm_448, Or.inr (Or.inr ⟨yX1_castLine, RX1, _, _, _, wm_443, wm_446, wm_447, ⟨by decide +kernel, by decide +kernel⟩, wm_444, wm_461, by decide +kernel⟩)⟩
theorem d_X9_record_76_6 : pm_kV e_X9_record 76 e_X6_castLine RX6 1 79 := ⟨154, by decide +kernel, rfl, fit_X9_record_X6_castLine, wm_457, Or.inr (Or.inr ⟨yX1_castLine, RX1, _, _, _, wm_443, wm_446, wm_456, ⟨by decide +kernel, by decide +kernel⟩, wm_444, wm_461, by decide +kernel⟩)⟩
theorem d_X9_record_76_7 : pm_kV e_X9_record 76 e_X6_castLine RX7 1 79 := ⟨154, by decide +kernel, rfl, fit_X9_record_X6_castLine, wm_457, Or.inr (Or.inr ⟨yX1_castLine, RX1, _, _, _, wm_443, wm_446, wm_460, ⟨by decide +kernel, by decide +kernel⟩, wm_444, wm_461, by decide +kernel⟩)⟩
theorem d_X9_record_79 : pm_D e_X9_record 79 1 (.i2b) 80 := ⟨by decide +kernel, rfl⟩
theorem d_X9_record_80 : pm_D e_X9_record 80 1 (.bastore) 81 := ⟨by decide +kernel, rfl⟩
theorem d_X9_record_81 : pm_I e_X9_record 81 8 1 84 := ⟨1, by decide +kernel, by decide +kernel, rfl⟩
theorem d_X9_record_84 : pm_B e_X9_record 84 (fun z => .goto z) 56 87 := ⟨-28, by decide +kernel, by decide, rfl⟩
theorem d_X9_record_87 : pm_i e_X9_record 87 .iload_n .iload 5 89 := Or.inr ⟨by decide +kernel, rfl⟩
theorem d_X9_record_89 : pm_D e_X9_record 89 1 (.ireturn) 90 := ⟨by decide +kernel, rfl⟩
theorem d_X9_off_0 : pm_i e_X9_off 0 .aload_n .aload 0 1 := Or.inl ⟨0, by decide +kernel, rfl, rfl⟩
theorem d_X9_off_1 : pm_i e_X9_off 1 .iload_n .iload 1 2 := Or.inl ⟨1, by decide +kernel, rfl, rfl⟩
theorem d_X9_off_2 : pm_kV e_X9_off 2 e_X9_rowAt RX9 1 5 := ⟨194, by decide +kernel, rfl, fit_X9_off_X9_rowAt, wm_557, Or.inl ⟨wm_555, wm_10⟩⟩
theorem d_X9_off_5 : pm_i e_X9_off 5 .astore_n .astore 3 6 := Or.inl ⟨3, by decide +kernel, rfl, rfl⟩
theorem d_X9_off_6 : pm_i e_X9_off 6 .aload_n .aload 0 7 := Or.inl ⟨0, by decide +kernel, rfl, rfl⟩
theorem d_X9_off_7 : pm_i e_X9_off 7 .iload_n .iload 2 8 := Or.inl ⟨2, by decide +kernel, rfl, rfl⟩
theorem d_X9_off_8 : pm_kV e_X9_off 8 e_X9_casterAt RX9 1 11 := ⟨103, by decide +kernel, rfl, fit_X9_off_X9_casterAt, wm_278, Or.inl ⟨wm_276, wm_1⟩⟩
theorem d_X9_off_11 : pm_i e_X9_off 11 .astore_n .astore 4 13 := Or.inr ⟨by decide +kernel, rfl⟩
theorem d_X9_off_13 : pm_i e_X9_off 13 .aload_n .aload 3 14 := Or.inl ⟨3, by decide +kernel, rfl, rfl⟩
theorem d_X9_off_14 : pm_B e_X9_off 14 (fun z => .ifnull z) 22 17 := ⟨8, by decide +kernel, by decide, rfl⟩
theorem d_X9_off_17 : pm_i e_X9_off 17 .aload_n .aload 4 19 := Or.inr ⟨by decide +kernel, rfl⟩
theorem d_X9_off_19 : pm_B e_X9_off 19 (fun z => .ifnonnull z) 24 22 := ⟨5, by decide +kernel, by decide, rfl⟩
theorem d_X9_off_22 : pm_P e_X9_off 22 (-1) 23 := Or.inl ⟨-1, by decide +kernel, by decide +kernel, rfl⟩
theorem d_X9_off_23 : pm_D e_X9_off 23 1 (.ireturn) 24 := ⟨by decide +kernel, rfl⟩
theorem d_X9_off_24 : pm_i e_X9_off 24 .aload_n .aload 3 25 := Or.inl ⟨3, by decide +kernel, rfl, rfl⟩
theorem d_X9_off_25 : pm_kV e_X9_off 25 e_X0_isThere RX0 0 28 := ⟨201, by decide +kernel, rfl, fit_X9_off_X0_isThere, wm_571, Or.inl ⟨wm_570, wm_572⟩⟩
theorem d_X9_off_28 : pm_B e_X9_off 28 (fun z => .ifCond .ne z) 37 31 := ⟨9, by decide +kernel, by decide, rfl⟩
theorem d_X9_off_31 : pm_i e_X9_off 31 .aload_n .aload 0 32 := Or.inl ⟨0, by decide +kernel, rfl, rfl⟩
theorem d_X9_off_32 : pm_P e_X9_off 32 1 33 := Or.inl ⟨1, by decide +kernel, by decide +kernel, rfl⟩
theorem d_X9_off_33 : pm_kV e_X9_off 33 e_X9_found RX9 1 36 := ⟨122, by decide +kernel, rfl, fit_X9_off_X9_found, wm_344, Or.inl ⟨wm_342, wm_3⟩⟩
theorem d_X9_off_36 : pm_D e_X9_off 36 1 (.ireturn) 37 := ⟨by decide +kernel, rfl⟩
theorem d_X9_off_37 : pm_i e_X9_off 37 .aload_n .aload 3 38 := Or.inl ⟨3, by decide +kernel, rfl, rfl⟩
theorem d_X9_off_38 : pm_i e_X9_off 38 .aload_n .aload 0 39 := Or.inl ⟨0, by decide +kernel, rfl, rfl⟩
theorem d_X9_off_39 : pm_F e_X9_off 39 .getfield (RX9, "otherParts", "[I") 42 := ⟨61, by decide +kernel, rfl, Or.inl wm_170⟩
theorem d_X9_off_42 : pm_kV e_X9_off 42 e_X0_partsInto RX0 1 45 := ⟨242, by decide +kernel, rfl, fit_X9_off_X0_partsInto, wm_654, Or.inl ⟨wm_653, wm_655⟩⟩
theorem d_X9_off_45 : pm_B e_X9_off 45 (fun z => .ifCond .ne z) 54 48 := ⟨9, by decide +kernel, by decide, rfl⟩
theorem d_X9_off_48 : pm_i e_X9_off 48 .aload_n .aload 0 49 := Or.inl ⟨0, by decide +kernel, rfl, rfl⟩
theorem d_X9_off_49 : pm_P e_X9_off 49 4 50 := Or.inl ⟨4, by decide +kernel, by decide +kernel, rfl⟩
theorem d_X9_off_50 : pm_kV e_X9_off 50 e_X9_found RX9 1 53 := ⟨122, by decide +kernel, rfl, fit_X9_off_X9_found, wm_344, Or.inl ⟨wm_342, wm_3⟩⟩
theorem d_X9_off_53 : pm_D e_X9_off 53 1 (.ireturn) 54 := ⟨by decide +kernel, rfl⟩
theorem d_X9_off_54 : pm_i e_X9_off 54 .aload_n .aload 0 55 := Or.inl ⟨0, by decide +kernel, rfl, rfl⟩
theorem d_X9_off_55 : pm_i e_X9_off 55 .aload_n .aload 0 56 := Or.inl ⟨0, by decide +kernel, rfl, rfl⟩
theorem d_X9_off_56 : pm_i e_X9_off 56 .aload_n .aload 4 58 := Or.inr ⟨by decide +kernel, rfl⟩
theorem d_X9_off_58 : pm_kV e_X9_off 58 e_X9_offOf RX9 1 61 := ⟨246, by decide +kernel, rfl, fit_X9_off_X9_offOf, wm_661, Or.inl ⟨wm_659, wm_15⟩⟩
theorem d_X9_off_61 : pm_D e_X9_off 61 1 (.i2l) 62 := ⟨by decide +kernel, rfl⟩
theorem d_X9_off_62 : pm_F e_X9_off 62 .putfield (RX9, "lastAsked", "J") 65 := ⟨70, by decide +kernel, rfl, Or.inl wm_173⟩
theorem d_X9_off_65 : pm_P e_X9_off 65 1 66 := Or.inl ⟨1, by decide +kernel, by decide +kernel, rfl⟩
theorem d_X9_off_66 : pm_D e_X9_off 66 1 (.ireturn) 67 := ⟨by decide +kernel, rfl⟩
theorem d_X9_nearest_0 : pm_i e_X9_nearest 0 .aload_n .aload 0 1 := Or.inl ⟨0, by decide +kernel, rfl, rfl⟩
theorem d_X9_nearest_1 : pm_i e_X9_nearest 1 .iload_n .iload 1 2 := Or.inl ⟨1, by decide +kernel, rfl, rfl⟩
theorem d_X9_nearest_2 : pm_kV e_X9_nearest 2 e_X9_rowAt RX9 1 5 := ⟨194, by decide +kernel, rfl, fit_X9_nearest_X9_rowAt, wm_557, Or.inl ⟨wm_555, wm_10⟩⟩
theorem d_X9_nearest_5 : pm_i e_X9_nearest 5 .astore_n .astore 2 6 := Or.inl ⟨2, by decide +kernel, rfl, rfl⟩
theorem d_X9_nearest_6 : pm_i e_X9_nearest 6 .aload_n .aload 2 7 := Or.inl ⟨2, by decide +kernel, rfl, rfl⟩
theorem d_X9_nearest_7 : pm_B e_X9_nearest 7 (fun z => .ifnonnull z) 12 10 := ⟨5, by decide +kernel, by decide, rfl⟩
theorem d_X9_nearest_10 : pm_P e_X9_nearest 10 (-1) 11 := Or.inl ⟨-1, by decide +kernel, by decide +kernel, rfl⟩
theorem d_X9_nearest_11 : pm_D e_X9_nearest 11 1 (.ireturn) 12 := ⟨by decide +kernel, rfl⟩
theorem d_X9_nearest_12 : pm_i e_X9_nearest 12 .aload_n .aload 0 13 := Or.inl ⟨0, by decide +kernel, rfl, rfl⟩
theorem d_X9_nearest_13 : pm_F e_X9_nearest 13 .getfield (RX9, "casterCount", "I") 16 := ⟨15, by decide +kernel, rfl, Or.inl wm_162⟩
theorem d_X9_nearest_16 : pm_B e_X9_nearest 16 (fun z => .ifCond .ne z) 22 19 := ⟨6, by decide +kernel, by decide, rfl⟩
theorem d_X9_nearest_19 : pm_P e_X9_nearest 19 (-4) 21 := Or.inr <| Or.inl ⟨-4, by decide +kernel, by decide +kernel, rfl⟩
theorem d_X9_nearest_21 : pm_D e_X9_nearest 21 1 (.ireturn) 22 := ⟨by decide +kernel, rfl⟩
theorem d_X9_nearest_22 : pm_i e_X9_nearest 22 .aload_n .aload 2 23 := Or.inl ⟨2, by decide +kernel, rfl, rfl⟩
theorem d_X9_nearest_23 : pm_kV e_X9_nearest 23 e_X0_isThere RX0 0 26 := ⟨201, by decide +kernel, rfl, fit_X9_nearest_X0_isThere, wm_571, Or.inl ⟨wm_570, wm_572⟩⟩
theorem d_X9_nearest_26 : pm_B e_X9_nearest 26 (fun z => .ifCond .ne z) 35 29 := ⟨9, by decide +kernel, by decide, rfl⟩
theorem d_X9_nearest_29 : pm_i e_X9_nearest 29 .aload_n .aload 0 30 := Or.inl ⟨0, by decide +kernel, rfl, rfl⟩
theorem d_X9_nearest_30 : pm_P e_X9_nearest 30 1 31 := Or.inl ⟨1, by decide +kernel, by decide +kernel, rfl⟩
theorem d_X9_nearest_31 : pm_kV e_X9_nearest 31 e_X9_found RX9 1 34 := ⟨122, by decide +kernel, rfl, fit_X9_nearest_X9_found, wm_344, Or.inl ⟨wm_342, wm_3⟩⟩
theorem d_X9_nearest_34 : pm_D e_X9_nearest 34 1 (.ireturn) 35 := ⟨by decide +kernel, rfl⟩
theorem d_X9_nearest_35 : pm_i e_X9_nearest 35 .aload_n .aload 2 36 := Or.inl ⟨2, by decide +kernel, rfl, rfl⟩
theorem d_X9_nearest_36 : pm_i e_X9_nearest 36 .aload_n .aload 0 37 := Or.inl ⟨0, by decide +kernel, rfl, rfl⟩
theorem d_X9_nearest_37 : pm_F e_X9_nearest 37 .getfield (RX9, "otherParts", "[I") 40 := ⟨61, by decide +kernel, rfl, Or.inl wm_170⟩
theorem d_X9_nearest_40 : pm_kV e_X9_nearest 40 e_X0_partsInto RX0 1 43 := ⟨242, by decide +kernel, rfl, fit_X9_nearest_X0_partsInto, wm_654, Or.inl ⟨wm_653, wm_655⟩⟩
theorem d_X9_nearest_43 : pm_B e_X9_nearest 43 (fun z => .ifCond .ne z) 52 46 := ⟨9, by decide +kernel, by decide, rfl⟩
theorem d_X9_nearest_46 : pm_i e_X9_nearest 46 .aload_n .aload 0 47 := Or.inl ⟨0, by decide +kernel, rfl, rfl⟩
theorem d_X9_nearest_47 : pm_P e_X9_nearest 47 4 48 := Or.inl ⟨4, by decide +kernel, by decide +kernel, rfl⟩
theorem d_X9_nearest_48 : pm_kV e_X9_nearest 48 e_X9_found RX9 1 51 := ⟨122, by decide +kernel, rfl, fit_X9_nearest_X9_found, wm_344, Or.inl ⟨wm_342, wm_3⟩⟩
theorem d_X9_nearest_51 : pm_D e_X9_nearest 51 1 (.ireturn) 52 := ⟨by decide +kernel, rfl⟩
theorem d_X9_nearest_52 : pm_P e_X9_nearest 52 0 53 := Or.inl ⟨0, by decide +kernel, by decide +kernel, rfl⟩
theorem d_X9_nearest_53 : pm_i e_X9_nearest 53 .istore_n .istore 3 54 := Or.inl ⟨3, by decide +kernel, rfl, rfl⟩
theorem d_X9_nearest_54 : pm_P e_X9_nearest 54 2000001 56 := Or.inr <| Or.inr <| Or.inr <| Or.inl ⟨249, by decide +kernel, wm_680, rfl⟩
theorem d_X9_nearest_56 : pm_i e_X9_nearest 56 .istore_n .istore 4 58 := Or.inr ⟨by decide +kernel, rfl⟩
theorem d_X9_nearest_58 : pm_P e_X9_nearest 58 0 59 := Or.inl ⟨0, by decide +kernel, by decide +kernel, rfl⟩
theorem d_X9_nearest_59 : pm_i e_X9_nearest 59 .istore_n .istore 5 61 := Or.inr ⟨by decide +kernel, rfl⟩
theorem d_X9_nearest_61 : pm_i e_X9_nearest 61 .iload_n .iload 5 63 := Or.inr ⟨by decide +kernel, rfl⟩
theorem d_X9_nearest_63 : pm_i e_X9_nearest 63 .aload_n .aload 0 64 := Or.inl ⟨0, by decide +kernel, rfl, rfl⟩
theorem d_X9_nearest_64 : pm_F e_X9_nearest 64 .getfield (RX9, "casterCount", "I") 67 := ⟨15, by decide +kernel, rfl, Or.inl wm_162⟩
theorem d_X9_nearest_67 : pm_B e_X9_nearest 67 (fun z => .if_icmp .ge z) 102 70 := ⟨35, by decide +kernel, by decide, rfl⟩
theorem d_X9_nearest_70 : pm_i e_X9_nearest 70 .aload_n .aload 0 71 := Or.inl ⟨0, by decide +kernel, rfl, rfl⟩
theorem d_X9_nearest_71 : pm_i e_X9_nearest 71 .aload_n .aload 0 72 := Or.inl ⟨0, by decide +kernel, rfl, rfl⟩
theorem d_X9_nearest_72 : pm_i e_X9_nearest 72 .iload_n .iload 5 74 := Or.inr ⟨by decide +kernel, rfl⟩
theorem d_X9_nearest_74 : pm_kV e_X9_nearest 74 e_X9_casterAt RX9 1 77 := ⟨103, by decide +kernel, rfl, fit_X9_nearest_X9_casterAt, wm_278, Or.inl ⟨wm_276, wm_1⟩⟩
theorem d_X9_nearest_77 : pm_kV e_X9_nearest 77 e_X9_offOf RX9 1 80 := ⟨246, by decide +kernel, rfl, fit_X9_nearest_X9_offOf, wm_661, Or.inl ⟨wm_659, wm_15⟩⟩
theorem d_X9_nearest_80 : pm_i e_X9_nearest 80 .istore_n .istore 6 82 := Or.inr ⟨by decide +kernel, rfl⟩
theorem d_X9_nearest_82 : pm_i e_X9_nearest 82 .iload_n .iload 6 84 := Or.inr ⟨by decide +kernel, rfl⟩
theorem d_X9_nearest_84 : pm_i e_X9_nearest 84 .iload_n .iload 4 86 := Or.inr ⟨by decide +kernel, rfl⟩
theorem d_X9_nearest_86 : pm_B e_X9_nearest 86 (fun z => .if_icmp .ge z) 96 89 := ⟨10, by decide +kernel, by decide, rfl⟩
theorem d_X9_nearest_89 : pm_i e_X9_nearest 89 .iload_n .iload 6 91 := Or.inr ⟨by decide +kernel, rfl⟩
theorem d_X9_nearest_91 : pm_i e_X9_nearest 91 .istore_n .istore 4 93 := Or.inr ⟨by decide +kernel, rfl⟩
theorem d_X9_nearest_93 : pm_i e_X9_nearest 93 .iload_n .iload 5 95 := Or.inr ⟨by decide +kernel, rfl⟩
theorem d_X9_nearest_95 : pm_i e_X9_nearest 95 .istore_n .istore 3 96 := Or.inl ⟨3, by decide +kernel, rfl, rfl⟩
theorem d_X9_nearest_96 : pm_I e_X9_nearest 96 5 1 99 := ⟨1, by decide +kernel, by decide +kernel, rfl⟩
theorem d_X9_nearest_99 : pm_B e_X9_nearest 99 (fun z => .goto z) 61 102 := ⟨-38, by decide +kernel, by decide, rfl⟩
theorem d_X9_nearest_102 : pm_i e_X9_nearest 102 .iload_n .iload 3 103 := Or.inl ⟨3, by decide +kernel, rfl, rfl⟩
theorem d_X9_nearest_103 : pm_D e_X9_nearest 103 1 (.ireturn) 104 := ⟨by decide +kernel, rfl⟩
theorem d_X9_lost_0 : pm_i e_X9_lost 0 .aload_n .aload 0 1 := Or.inl ⟨0, by decide +kernel, rfl, rfl⟩
theorem d_X9_lost_1 : pm_i e_X9_lost 1 .iload_n .iload 1 2 := Or.inl ⟨1, by decide +kernel, rfl, rfl⟩
theorem d_X9_lost_2 : pm_kV e_X9_lost 2 e_X9_rowAt RX9 1 5 := ⟨194, by decide +kernel, rfl, fit_X9_lost_X9_rowAt, wm_557, Or.inl ⟨wm_555, wm_10⟩⟩
theorem d_X9_lost_5 : pm_i e_X9_lost 5 .astore_n .astore 3 6 := Or.inl ⟨3, by decide +kernel, rfl, rfl⟩
theorem d_X9_lost_6 : pm_i e_X9_lost 6 .aload_n .aload 0 7 := Or.inl ⟨0, by decide +kernel, rfl, rfl⟩
theorem d_X9_lost_7 : pm_i e_X9_lost 7 .iload_n .iload 2 8 := Or.inl ⟨2, by decide +kernel, rfl, rfl⟩
theorem d_X9_lost_8 : pm_kV e_X9_lost 8 e_X9_casterAt RX9 1 11 := ⟨103, by decide +kernel, rfl, fit_X9_lost_X9_casterAt, wm_278, Or.inl ⟨wm_276, wm_1⟩⟩
theorem d_X9_lost_11 : pm_i e_X9_lost 11 .astore_n .astore 4 13 := Or.inr ⟨by decide +kernel, rfl⟩
theorem d_X9_lost_13 : pm_i e_X9_lost 13 .aload_n .aload 3 14 := Or.inl ⟨3, by decide +kernel, rfl, rfl⟩
theorem d_X9_lost_14 : pm_B e_X9_lost 14 (fun z => .ifnull z) 22 17 := ⟨8, by decide +kernel, by decide, rfl⟩
theorem d_X9_lost_17 : pm_i e_X9_lost 17 .aload_n .aload 4 19 := Or.inr ⟨by decide +kernel, rfl⟩
theorem d_X9_lost_19 : pm_B e_X9_lost 19 (fun z => .ifnonnull z) 24 22 := ⟨5, by decide +kernel, by decide, rfl⟩
theorem d_X9_lost_22 : pm_P e_X9_lost 22 (-1) 23 := Or.inl ⟨-1, by decide +kernel, by decide +kernel, rfl⟩
theorem d_X9_lost_23 : pm_D e_X9_lost 23 1 (.ireturn) 24 := ⟨by decide +kernel, rfl⟩
theorem d_X9_lost_24 : pm_i e_X9_lost 24 .aload_n .aload 3 25 := Or.inl ⟨3, by decide +kernel, rfl, rfl⟩
theorem d_X9_lost_25 : pm_kV e_X9_lost 25 e_X0_isThere RX0 0 28 := ⟨201, by decide +kernel, rfl, fit_X9_lost_X0_isThere, wm_571, Or.inl ⟨wm_570, wm_572⟩⟩
theorem d_X9_lost_28 : pm_B e_X9_lost 28 (fun z => .ifCond .ne z) 37 31 := ⟨9, by decide +kernel, by decide, rfl⟩
theorem d_X9_lost_31 : pm_i e_X9_lost 31 .aload_n .aload 0 32 := Or.inl ⟨0, by decide +kernel, rfl, rfl⟩
theorem d_X9_lost_32 : pm_P e_X9_lost 32 1 33 := Or.inl ⟨1, by decide +kernel, by decide +kernel, rfl⟩
theorem d_X9_lost_33 : pm_kV e_X9_lost 33 e_X9_found RX9 1 36 := ⟨122, by decide +kernel, rfl, fit_X9_lost_X9_found, wm_344, Or.inl ⟨wm_342, wm_3⟩⟩
theorem d_X9_lost_36 : pm_D e_X9_lost 36 1 (.ireturn) 37 := ⟨by decide +kernel, rfl⟩
theorem d_X9_lost_37 : pm_i e_X9_lost 37 .aload_n .aload 4 39 := Or.inr ⟨by decide +kernel, rfl⟩
theorem d_X9_lost_39 : pm_kS e_X9_lost 39 e_X9_asStalks 1 42 := ⟨125, by decide +kernel, rfl, fit_X9_lost_X9_asStalks, wm_351, Or.inl wm_350⟩
theorem d_X9_lost_42 : pm_i e_X9_lost 42 .astore_n .astore 5 44 := Or.inr ⟨by decide +kernel, rfl⟩
theorem d_X9_lost_44 : pm_i e_X9_lost 44 .aload_n .aload 5 46 := Or.inr ⟨by decide +kernel, rfl⟩
theorem d_X9_lost_46 : pm_B e_X9_lost 46 (fun z => .ifnonnull z) 55 49 := ⟨9, by decide +kernel, by decide, rfl⟩
theorem d_X9_lost_49 : pm_i e_X9_lost 49 .aload_n .aload 0 50 := Or.inl ⟨0, by decide +kernel, rfl, rfl⟩
theorem d_X9_lost_50 : pm_P e_X9_lost 50 3 51 := Or.inl ⟨3, by decide +kernel, by decide +kernel, rfl⟩
theorem d_X9_lost_51 : pm_kV e_X9_lost 51 e_X9_found RX9 1 54 := ⟨122, by decide +kernel, rfl, fit_X9_lost_X9_found, wm_344, Or.inl ⟨wm_342, wm_3⟩⟩
theorem d_X9_lost_54 : pm_D e_X9_lost 54 1 (.ireturn) 55 := ⟨by decide +kernel, rfl⟩
theorem d_X9_lost_55 : pm_i e_X9_lost 55 .aload_n .aload 3 56 := Or.inl ⟨3, by decide +kernel, rfl, rfl⟩
theorem d_X9_lost_56 : pm_i e_X9_lost 56 .aload_n .aload 0 57 := Or.inl ⟨0, by decide +kernel, rfl, rfl⟩
theorem d_X9_lost_57 : pm_F e_X9_lost 57 .getfield (RX9, "otherParts", "[I") 60 := ⟨61, by decide +kernel, rfl, Or.inl wm_170⟩
theorem d_X9_lost_60 : pm_kV e_X9_lost 60 e_X0_partsInto RX0 1 63 := ⟨242, by decide +kernel, rfl, fit_X9_lost_X0_partsInto, wm_654, Or.inl ⟨wm_653, wm_655⟩⟩
theorem d_X9_lost_63 : pm_B e_X9_lost 63 (fun z => .ifCond .ne z) 72 66 := ⟨9, by decide +kernel, by decide, rfl⟩
theorem d_X9_lost_66 : pm_i e_X9_lost 66 .aload_n .aload 0 67 := Or.inl ⟨0, by decide +kernel, rfl, rfl⟩
theorem d_X9_lost_67 : pm_P e_X9_lost 67 4 68 := Or.inl ⟨4, by decide +kernel, by decide +kernel, rfl⟩
theorem d_X9_lost_68 : pm_kV e_X9_lost 68 e_X9_found RX9 1 71 := ⟨122, by decide +kernel, rfl, fit_X9_lost_X9_found, wm_344, Or.inl ⟨wm_342, wm_3⟩⟩
