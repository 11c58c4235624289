theorem d_X3_init_0 : pm_i e_X3_init 0 .aload_n .aload 0 1 := Or.inl ⟨0, by decide +kernel, rfl, rfl⟩
theorem d_X3_init_1 : pm_D e_X3_init 1 3 (.invokespecial 3) 4 := ⟨by decide +kernel, rfl⟩
theorem d_X3_init_4 : pm_i e_X3_init 4 .aload_n .aload 0 5 := Or.inl ⟨0, by decide +kernel, rfl, rfl⟩
theorem d_X3_init_5 : pm_P e_X3_init 5 6 7 := Or.inr <| Or.inl ⟨6, by decide +kernel, by decide +kernel, rfl⟩
theorem d_X3_init_7 : pm_D e_X3_init 7 2 (.newarray .int) 9 := ⟨by decide +kernel, rfl⟩
theorem d_X3_init_9 : pm_F e_X3_init 9 .putfield (RX3, "lines", "[I") 12 := ⟨9, by decide +kernel, rfl, Or.inl wm_78⟩
theorem d_X3_init_12 : pm_i e_X3_init 12 .aload_n .aload 0 13 := Or.inl ⟨0, by decide +kernel, rfl, rfl⟩
theorem d_X3_init_13 : pm_F e_X3_init 13 .getfield (RX3, "lines", "[I") 16 := ⟨9, by decide +kernel, rfl, Or.inl wm_78⟩
theorem d_X3_init_16 : pm_P e_X3_init 16 8 18 := Or.inr <| Or.inl ⟨8, by decide +kernel, by decide +kernel, rfl⟩
theorem d_X3_init_18 : pm_kS e_X3_init 18 e_J7_fill_53178 2 21 := ⟨15, by decide +kernel, rfl, fit_X3_init_J7_fill_53178, wm_76, Or.inl wm_75⟩
theorem d_X3_init_21 : pm_D e_X3_init 21 1 (.return_) 22 := ⟨by decide +kernel, rfl⟩
theorem d_X3_bits_0 : pm_P e_X3_bits 0 0 1 := Or.inl ⟨0, by decide +kernel, by decide +kernel, rfl⟩
theorem d_X3_bits_1 : pm_i e_X3_bits 1 .istore_n .istore 1 2 := Or.inl ⟨1, by decide +kernel, rfl, rfl⟩
theorem d_X3_bits_2 : pm_P e_X3_bits 2 0 3 := Or.inl ⟨0, by decide +kernel, by decide +kernel, rfl⟩
theorem d_X3_bits_3 : pm_i e_X3_bits 3 .istore_n .istore 2 4 := Or.inl ⟨2, by decide +kernel, rfl, rfl⟩
theorem d_X3_bits_4 : pm_i e_X3_bits 4 .iload_n .iload 2 5 := Or.inl ⟨2, by decide +kernel, rfl, rfl⟩
theorem d_X3_bits_5 : pm_P e_X3_bits 5 6 7 := Or.inr <| Or.inl ⟨6, by decide +kernel, by decide +kernel, rfl⟩
theorem d_X3_bits_7 : pm_B e_X3_bits 7 (fun z => .if_icmp .ge z) 44 10 := ⟨37, by decide +kernel, by decide, rfl⟩
theorem d_X3_bits_10 : pm_i e_X3_bits 10 .aload_n .aload 0 11 := Or.inl ⟨0, by decide +kernel, rfl, rfl⟩
theorem d_X3_bits_11 : pm_F e_X3_bits 11 .getfield (RX3, "lines", "[I") 14 := ⟨9, by decide +kernel, rfl, Or.inl wm_78⟩
theorem d_X3_bits_14 : pm_i e_X3_bits 14 .iload_n .iload 2 15 := Or.inl ⟨2, by decide +kernel, rfl, rfl⟩
theorem d_X3_bits_15 : pm_D e_X3_bits 15 1 (.iaload) 16 := ⟨by decide +kernel, rfl⟩
theorem d_X3_bits_16 : pm_P e_X3_bits 16 7 18 := Or.inr <| Or.inl ⟨7, by decide +kernel, by decide +kernel, rfl⟩
theorem d_X3_bits_18 : pm_B e_X3_bits 18 (fun z => .if_icmp .eq z) 32 21 := ⟨14, by decide +kernel, by decide, rfl⟩
theorem d_X3_bits_21 : pm_i e_X3_bits 21 .aload_n .aload 0 22 := Or.inl ⟨0, by decide +kernel, rfl, rfl⟩
theorem d_X3_bits_22 : pm_F e_X3_bits 22 .getfield (RX3, "lines", "[I") 25 := ⟨9, by decide +kernel, rfl, Or.inl wm_78⟩
theorem d_X3_bits_25 : pm_i e_X3_bits 25 .iload_n .iload 2 26 := Or.inl ⟨2, by decide +kernel, rfl, rfl⟩
theorem d_X3_bits_26 : pm_D e_X3_bits 26 1 (.iaload) 27 := ⟨by decide +kernel, rfl⟩
theorem d_X3_bits_27 : pm_P e_X3_bits 27 9 29 := Or.inr <| Or.inl ⟨9, by decide +kernel, by decide +kernel, rfl⟩
theorem d_X3_bits_29 : pm_B e_X3_bits 29 (fun z => .if_icmp .ne z) 38 32 := ⟨9, by decide +kernel, by decide, rfl⟩
theorem d_X3_bits_32 : pm_i e_X3_bits 32 .iload_n .iload 1 33 := Or.inl ⟨1, by decide +kernel, rfl, rfl⟩
theorem d_X3_bits_33 : pm_P e_X3_bits 33 1 34 := Or.inl ⟨1, by decide +kernel, by decide +kernel, rfl⟩
theorem d_X3_bits_34 : pm_i e_X3_bits 34 .iload_n .iload 2 35 := Or.inl ⟨2, by decide +kernel, rfl, rfl⟩
theorem d_X3_bits_35 : pm_D e_X3_bits 35 1 (.ishl) 36 := ⟨by decide +kernel, rfl⟩
theorem d_X3_bits_36 : pm_D e_X3_bits 36 1 (.ior) 37 := ⟨by decide +kernel, rfl⟩
theorem d_X3_bits_37 : pm_i e_X3_bits 37 .istore_n .istore 1 38 := Or.inl ⟨1, by decide +kernel, rfl, rfl⟩
theorem d_X3_bits_38 : pm_I e_X3_bits 38 2 1 41 := ⟨1, by decide +kernel, by decide +kernel, rfl⟩
theorem d_X3_bits_41 : pm_B e_X3_bits 41 (fun z => .goto z) 4 44 := ⟨-37, by decide +kernel, by decide, rfl⟩
theorem d_X3_bits_44 : pm_i e_X3_bits 44 .iload_n .iload 1 45 := Or.inl ⟨1, by decide +kernel, rfl, rfl⟩
theorem d_X3_bits_45 : pm_D e_X3_bits 45 1 (.ireturn) 46 := ⟨by decide +kernel, rfl⟩
theorem d_X3_oldLines_0 : pm_P e_X3_oldLines 0 0 1 := Or.inl ⟨0, by decide +kernel, by decide +kernel, rfl⟩
theorem d_X3_oldLines_1 : pm_i e_X3_oldLines 1 .istore_n .istore 1 2 := Or.inl ⟨1, by decide +kernel, rfl, rfl⟩
theorem d_X3_oldLines_2 : pm_P e_X3_oldLines 2 0 3 := Or.inl ⟨0, by decide +kernel, by decide +kernel, rfl⟩
theorem d_X3_oldLines_3 : pm_i e_X3_oldLines 3 .istore_n .istore 2 4 := Or.inl ⟨2, by decide +kernel, rfl, rfl⟩
theorem d_X3_oldLines_4 : pm_i e_X3_oldLines 4 .iload_n .iload 2 5 := Or.inl ⟨2, by decide +kernel, rfl, rfl⟩
theorem d_X3_oldLines_5 : pm_P e_X3_oldLines 5 6 7 := Or.inr <| Or.inl ⟨6, by decide +kernel, by decide +kernel, rfl⟩
theorem d_X3_oldLines_7 : pm_B e_X3_oldLines 7 (fun z => .if_icmp .ge z) 31 10 := ⟨24, by decide +kernel, by decide, rfl⟩
theorem d_X3_oldLines_10 : pm_i e_X3_oldLines 10 .aload_n .aload 0 11 := Or.inl ⟨0, by decide +kernel, rfl, rfl⟩
theorem d_X3_oldLines_11 : pm_F e_X3_oldLines 11 .getfield (RX3, "lines", "[I") 14 := ⟨9, by decide +kernel, rfl, Or.inl wm_78⟩
theorem d_X3_oldLines_14 : pm_i e_X3_oldLines 14 .iload_n .iload 2 15 := Or.inl ⟨2, by decide +kernel, rfl, rfl⟩
theorem d_X3_oldLines_15 : pm_D e_X3_oldLines 15 1 (.iaload) 16 := ⟨by decide +kernel, rfl⟩
theorem d_X3_oldLines_16 : pm_kS e_X3_oldLines 16 e_X9_isOld 1 19 := ⟨21, by decide +kernel, rfl, fit_X3_oldLines_X9_isOld, wm_493, Or.inr ⟨_, wm_492⟩⟩
theorem d_X3_oldLines_19 : pm_B e_X3_oldLines 19 (fun z => .ifCond .eq z) 25 22 := ⟨6, by decide +kernel, by decide, rfl⟩
theorem d_X3_oldLines_22 : pm_I e_X3_oldLines 22 1 1 25 := ⟨1, by decide +kernel, by decide +kernel, rfl⟩
theorem d_X3_oldLines_25 : pm_I e_X3_oldLines 25 2 1 28 := ⟨1, by decide +kernel, by decide +kernel, rfl⟩
theorem d_X3_oldLines_28 : pm_B e_X3_oldLines 28 (fun z => .goto z) 4 31 := ⟨-24, by decide +kernel, by decide, rfl⟩
theorem d_X3_oldLines_31 : pm_i e_X3_oldLines 31 .iload_n .iload 1 32 := Or.inl ⟨1, by decide +kernel, rfl, rfl⟩
theorem d_X3_oldLines_32 : pm_D e_X3_oldLines 32 1 (.ireturn) 33 := ⟨by decide +kernel, rfl⟩
theorem d_X3_become_0 : pm_i e_X3_become 0 .aload_n .aload 1 1 := Or.inl ⟨1, by decide +kernel, rfl, rfl⟩
theorem d_X3_become_1 : pm_F e_X3_become 1 .getfield (RX3, "lines", "[I") 4 := ⟨9, by decide +kernel, rfl, Or.inl wm_78⟩
theorem d_X3_become_4 : pm_P e_X3_become 4 0 5 := Or.inl ⟨0, by decide +kernel, by decide +kernel, rfl⟩
theorem d_X3_become_5 : pm_i e_X3_become 5 .aload_n .aload 0 6 := Or.inl ⟨0, by decide +kernel, rfl, rfl⟩
theorem d_X3_become_6 : pm_F e_X3_become 6 .getfield (RX3, "lines", "[I") 9 := ⟨9, by decide +kernel, rfl, Or.inl wm_78⟩
theorem d_X3_become_9 : pm_P e_X3_become 9 0 10 := Or.inl ⟨0, by decide +kernel, by decide +kernel, rfl⟩
theorem d_X3_become_10 : pm_P e_X3_become 10 6 12 := Or.inr <| Or.inl ⟨6, by decide +kernel, by decide +kernel, rfl⟩
theorem d_X3_become_12 : pm_D e_X3_become 12 3 (.invokestatic 25) 15 := ⟨by decide +kernel, rfl⟩
theorem d_X3_become_15 : pm_D e_X3_become 15 1 (.return_) 16 := ⟨by decide +kernel, rfl⟩
theorem d_X3_castBy_0 : pm_P e_X3_castBy 0 1 1 := Or.inl ⟨1, by decide +kernel, by decide +kernel, rfl⟩
theorem d_X3_castBy_1 : pm_i e_X3_castBy 1 .istore_n .istore 3 2 := Or.inl ⟨3, by decide +kernel, rfl, rfl⟩
theorem d_X3_castBy_2 : pm_P e_X3_castBy 2 0 3 := Or.inl ⟨0, by decide +kernel, by decide +kernel, rfl⟩
theorem d_X3_castBy_3 : pm_i e_X3_castBy 3 .istore_n .istore 4 5 := Or.inr ⟨by decide +kernel, rfl⟩
theorem d_X3_castBy_5 : pm_i e_X3_castBy 5 .iload_n .iload 4 7 := Or.inr ⟨by decide +kernel, rfl⟩
theorem d_X3_castBy_7 : pm_P e_X3_castBy 7 6 9 := Or.inr <| Or.inl ⟨6, by decide +kernel, by decide +kernel, rfl⟩
theorem d_X3_castBy_9 : pm_B e_X3_castBy 9 (fun z => .if_icmp .ge z) 62 12 := ⟨53, by decide +kernel, by decide, rfl⟩
theorem d_X3_castBy_12 : pm_i e_X3_castBy 12 .aload_n .aload 0 13 := Or.inl ⟨0, by decide +kernel, rfl, rfl⟩
theorem d_X3_castBy_13 : pm_F e_X3_castBy 13 .getfield (RX3, "lines", "[I") 16 := ⟨9, by decide +kernel, rfl, Or.inl wm_78⟩
theorem d_X3_castBy_16 : pm_i e_X3_castBy 16 .iload_n .iload 4 18 := Or.inr ⟨by decide +kernel, rfl⟩
theorem d_X3_castBy_18 : pm_i e_X3_castBy 18 .aload_n .aload 1 19 := Or.inl ⟨1, by decide +kernel, rfl, rfl⟩
theorem d_X3_castBy_19 : pm_i e_X3_castBy 19 .aload_n .aload 2 20 := Or.inl ⟨2, by decide +kernel, rfl, rfl⟩
theorem d_X3_castBy_20_1 : pm_kV e_X3_castBy 20 e_X1_castLine RX1 1 23 := ⟨31, by decide +kernel, rfl, fit_X3_castBy_X1_castLine, wm_444, Or.inl ⟨wm_482, wm_445⟩⟩
theorem d_X3_castBy_20_2 : pm_kV e_X3_castBy 20 e_X2_castLine RX2 1 23 := ⟨31, by decide +kernel, rfl, fit_X3_castBy_X2_castLine, wm_448, Or.inr (Or.inr ⟨yX1_castLine, RX1, _, _, _, wm_482, wm_446, wm_447, ⟨by decide +kernel, by decide +kernel⟩, wm_444, wm_461, by decide +kernel⟩)⟩
theorem d_X3_castBy_20_6 : pm_kV e_X3_castBy 20 e_X6_castLine RX6 1 23 := ⟨31, by decide +kernel, rfl, fit_X3_castBy_X6_castLine, wm_457, Or.inr (Or.inr ⟨yX1_castLine, RX1, _, _, _, wm_482, wm_446, wm_456, ⟨by decide +kernel, by decide +kernel⟩, wm_444, wm_461, by decide +kernel⟩)⟩
theorem d_X3_castBy_20_7 : pm_kV e_X3_castBy 20 e_X6_castLine RX7 1 23 := ⟨31, by decide +kernel, rfl, fit_X3_castBy_X6_castLine, wm_457, Or.inr (Or.inr ⟨yX1_castLine, RX1, _, _, _, wm_482, wm_446, wm_460, ⟨by decide +kernel, by decide +kernel⟩, wm_444, wm_461, by decide +kernel⟩)⟩
theorem d_X3_castBy_23 : pm_D e_X3_castBy 23 1 (.iastore) 24 := ⟨by decide +kernel, rfl⟩
theorem d_X3_castBy_24 : pm_i e_X3_castBy 24 .iload_n .iload 3 25 := Or.inl ⟨3, by decide +kernel, rfl, rfl⟩
theorem d_X3_castBy_25 : pm_i e_X3_castBy 25 .aload_n .aload 0 26 := Or.inl ⟨0, by decide +kernel, rfl, rfl⟩
theorem d_X3_castBy_26 : pm_F e_X3_castBy 26 .getfield (RX3, "lines", "[I") 29 := ⟨9, by decide +kernel, rfl, Or.inl wm_78⟩
theorem d_X3_castBy_29 : pm_i e_X3_castBy 29 .iload_n .iload 4 31 := Or.inr ⟨by decide +kernel, rfl⟩
theorem d_X3_castBy_31 : pm_D e_X3_castBy 31 1 (.iaload) 32 := ⟨by decide +kernel, rfl⟩
theorem d_X3_castBy_32 : pm_P e_X3_castBy 32 6 34 := Or.inr <| Or.inl ⟨6, by decide +kernel, by decide +kernel, rfl⟩
theorem d_X3_castBy_34 : pm_B e_X3_castBy 34 (fun z => .if_icmp .lt z) 53 37 := ⟨19, by decide +kernel, by decide, rfl⟩
theorem d_X3_castBy_37 : pm_i e_X3_castBy 37 .aload_n .aload 0 38 := Or.inl ⟨0, by decide +kernel, rfl, rfl⟩
theorem d_X3_castBy_38 : pm_F e_X3_castBy 38 .getfield (RX3, "lines", "[I") 41 := ⟨9, by decide +kernel, rfl, Or.inl wm_78⟩
theorem d_X3_castBy_41 : pm_i e_X3_castBy 41 .iload_n .iload 4 43 := Or.inr ⟨by decide +kernel, rfl⟩
theorem d_X3_castBy_43 : pm_D e_X3_castBy 43 1 (.iaload) 44 := ⟨by decide +kernel, rfl⟩
theorem d_X3_castBy_44 : pm_P e_X3_castBy 44 9 46 := Or.inr <| Or.inl ⟨9, by decide +kernel, by decide +kernel, rfl⟩
theorem d_X3_castBy_46 : pm_B e_X3_castBy 46 (fun z => .if_icmp .gt z) 53 49 := ⟨7, by decide +kernel, by decide, rfl⟩
theorem d_X3_castBy_49 : pm_P e_X3_castBy 49 1 50 := Or.inl ⟨1, by decide +kernel, by decide +kernel, rfl⟩
theorem d_X3_castBy_50 : pm_B e_X3_castBy 50 (fun z => .goto z) 54 53 := ⟨4, by decide +kernel, by decide, rfl⟩
theorem d_X3_castBy_53 : pm_P e_X3_castBy 53 0 54 := Or.inl ⟨0, by decide +kernel, by decide +kernel, rfl⟩
theorem d_X3_castBy_54 : pm_D e_X3_castBy 54 1 (.iand) 55 := ⟨by decide +kernel, rfl⟩
theorem d_X3_castBy_55 : pm_i e_X3_castBy 55 .istore_n .istore 3 56 := Or.inl ⟨3, by decide +kernel, rfl, rfl⟩
theorem d_X3_castBy_56 : pm_I e_X3_castBy 56 4 1 59 := ⟨1, by decide +kernel, by decide +kernel, rfl⟩
theorem d_X3_castBy_59 : pm_B e_X3_castBy 59 (fun z => .goto z) 5 62 := ⟨-54, by decide +kernel, by decide, rfl⟩
theorem d_X3_castBy_62 : pm_i e_X3_castBy 62 .iload_n .iload 3 63 := Or.inl ⟨3, by decide +kernel, rfl, rfl⟩
theorem d_X3_castBy_63 : pm_D e_X3_castBy 63 1 (.ireturn) 64 := ⟨by decide +kernel, rfl⟩
theorem d_X3_becomeAfter_0 : pm_P e_X3_becomeAfter 0 0 1 := Or.inl ⟨0, by decide +kernel, by decide +kernel, rfl⟩
theorem d_X3_becomeAfter_1 : pm_i e_X3_becomeAfter 1 .istore_n .istore 3 2 := Or.inl ⟨3, by decide +kernel, rfl, rfl⟩
theorem d_X3_becomeAfter_2 : pm_i e_X3_becomeAfter 2 .iload_n .iload 3 3 := Or.inl ⟨3, by decide +kernel, rfl, rfl⟩
theorem d_X3_becomeAfter_3 : pm_P e_X3_becomeAfter 3 6 5 := Or.inr <| Or.inl ⟨6, by decide +kernel, by decide +kernel, rfl⟩
theorem d_X3_becomeAfter_5 : pm_B e_X3_becomeAfter 5 (fun z => .if_icmp .ge z) 120 8 := ⟨115, by decide +kernel, by decide, rfl⟩
theorem d_X3_becomeAfter_8 : pm_i e_X3_becomeAfter 8 .iload_n .iload 1 9 := Or.inl ⟨1, by decide +kernel, rfl, rfl⟩
theorem d_X3_becomeAfter_9 : pm_T e_X3_becomeAfter 9 0 2 89 [36, 54, 71] := ⟨80, #[27, 45, 62], 27, by decide +kernel, by decide, by decide⟩
theorem d_X3_becomeAfter_36 : pm_i e_X3_becomeAfter 36 .aload_n .aload 0 37 := Or.inl ⟨0, by decide +kernel, rfl, rfl⟩
theorem d_X3_becomeAfter_37 : pm_F e_X3_becomeAfter 37 .getfield (RX3, "lines", "[I") 40 := ⟨9, by decide +kernel, rfl, Or.inl wm_78⟩
theorem d_X3_becomeAfter_40 : pm_i e_X3_becomeAfter 40 .iload_n .iload 3 41 := Or.inl ⟨3, by decide +kernel, rfl, rfl⟩
theorem d_X3_becomeAfter_41 : pm_i e_X3_becomeAfter 41 .aload_n .aload 2 42 := Or.inl ⟨2, by decide +kernel, rfl, rfl⟩
theorem d_X3_becomeAfter_42 : pm_F e_X3_becomeAfter 42 .getfield (RX3, "lines", "[I") 45 := ⟨9, by decide +kernel, rfl, Or.inl wm_78⟩
theorem d_X3_becomeAfter_45 : pm_i e_X3_becomeAfter 45 .iload_n .iload 3 46 := Or.inl ⟨3, by decide +kernel, rfl, rfl⟩
theorem d_X3_becomeAfter_46 : pm_D e_X3_becomeAfter 46 1 (.iaload) 47 := ⟨by decide +kernel, rfl⟩
theorem d_X3_becomeAfter_47 : pm_kS e_X3_becomeAfter 47 e_X3_changed 1 50 := ⟨37, by decide +kernel, rfl, fit_X3_becomeAfter_X3_changed, wm_512, Or.inl wm_511⟩
theorem d_X3_becomeAfter_50 : pm_D e_X3_becomeAfter 50 1 (.iastore) 51 := ⟨by decide +kernel, rfl⟩
theorem d_X3_becomeAfter_51 : pm_B e_X3_becomeAfter 51 (fun z => .goto z) 114 54 := ⟨63, by decide +kernel, by decide, rfl⟩
theorem d_X3_becomeAfter_54 : pm_i e_X3_becomeAfter 54 .aload_n .aload 0 55 := Or.inl ⟨0, by decide +kernel, rfl, rfl⟩
theorem d_X3_becomeAfter_55 : pm_F e_X3_becomeAfter 55 .getfield (RX3, "lines", "[I") 58 := ⟨9, by decide +kernel, rfl, Or.inl wm_78⟩
theorem d_X3_becomeAfter_58 : pm_i e_X3_becomeAfter 58 .iload_n .iload 3 59 := Or.inl ⟨3, by decide +kernel, rfl, rfl⟩
theorem d_X3_becomeAfter_59 : pm_i e_X3_becomeAfter 59 .aload_n .aload 2 60 := Or.inl ⟨2, by decide +kernel, rfl, rfl⟩
theorem d_X3_becomeAfter_60 : pm_F e_X3_becomeAfter 60 .getfield (RX3, "lines", "[I") 63 := ⟨9, by decide +kernel, rfl, Or.inl wm_78⟩
theorem d_X3_becomeAfter_63 : pm_P e_X3_becomeAfter 63 5 64 := Or.inl ⟨5, by decide +kernel, by decide +kernel, rfl⟩
theorem d_X3_becomeAfter_64 : pm_i e_X3_becomeAfter 64 .iload_n .iload 3 65 := Or.inl ⟨3, by decide +kernel, rfl, rfl⟩
theorem d_X3_becomeAfter_65 : pm_D e_X3_becomeAfter 65 1 (.isub) 66 := ⟨by decide +kernel, rfl⟩
theorem d_X3_becomeAfter_66 : pm_D e_X3_becomeAfter 66 1 (.iaload) 67 := ⟨by decide +kernel, rfl⟩
theorem d_X3_becomeAfter_67 : pm_D e_X3_becomeAfter 67 1 (.iastore) 68 := ⟨by decide +kernel, rfl⟩
theorem d_X3_becomeAfter_68 : pm_B e_X3_becomeAfter 68 (fun z => .goto z) 114 71 := ⟨46, by decide +kernel, by decide, rfl⟩
theorem d_X3_becomeAfter_71 : pm_i e_X3_becomeAfter 71 .aload_n .aload 0 72 := Or.inl ⟨0, by decide +kernel, rfl, rfl⟩
theorem d_X3_becomeAfter_72 : pm_F e_X3_becomeAfter 72 .getfield (RX3, "lines", "[I") 75 := ⟨9, by decide +kernel, rfl, Or.inl wm_78⟩
theorem d_X3_becomeAfter_75 : pm_i e_X3_becomeAfter 75 .iload_n .iload 3 76 := Or.inl ⟨3, by decide +kernel, rfl, rfl⟩
theorem d_X3_becomeAfter_76 : pm_P e_X3_becomeAfter 76 15 78 := Or.inr <| Or.inl ⟨15, by decide +kernel, by decide +kernel, rfl⟩
theorem d_X3_becomeAfter_78 : pm_i e_X3_becomeAfter 78 .aload_n .aload 2 79 := Or.inl ⟨2, by decide +kernel, rfl, rfl⟩
theorem d_X3_becomeAfter_79 : pm_F e_X3_becomeAfter 79 .getfield (RX3, "lines", "[I") 82 := ⟨9, by decide +kernel, rfl, Or.inl wm_78⟩
theorem d_X3_becomeAfter_82 : pm_i e_X3_becomeAfter 82 .iload_n .iload 3 83 := Or.inl ⟨3, by decide +kernel, rfl, rfl⟩
theorem d_X3_becomeAfter_83 : pm_D e_X3_becomeAfter 83 1 (.iaload) 84 := ⟨by decide +kernel, rfl⟩
theorem d_X3_becomeAfter_84 : pm_D e_X3_becomeAfter 84 1 (.isub) 85 := ⟨by decide +kernel, rfl⟩
theorem d_X3_becomeAfter_85 : pm_D e_X3_becomeAfter 85 1 (.iastore) 86 := ⟨by decide +kernel, rfl⟩
theorem d_X3_becomeAfter_86 : pm_B e_X3_becomeAfter 86 (fun z => .goto z) 114 89 := ⟨28, by decide +kernel, by decide, rfl⟩
theorem d_X3_becomeAfter_89 : pm_i e_X3_becomeAfter 89 .aload_n .aload 0 90 := Or.inl ⟨0, by decide +kernel, rfl, rfl⟩
theorem d_X3_becomeAfter_90 : pm_F e_X3_becomeAfter 90 .getfield (RX3, "lines", "[I") 93 := ⟨9, by decide +kernel, rfl, Or.inl wm_78⟩
theorem d_X3_becomeAfter_93 : pm_i e_X3_becomeAfter 93 .iload_n .iload 3 94 := Or.inl ⟨3, by decide +kernel, rfl, rfl⟩
theorem d_X3_becomeAfter_94 : pm_i e_X3_becomeAfter 94 .aload_n .aload 2 95 := Or.inl ⟨2, by decide +kernel, rfl, rfl⟩
theorem d_X3_becomeAfter_95 : pm_F e_X3_becomeAfter 95 .getfield (RX3, "lines", "[I") 98 := ⟨9, by decide +kernel, rfl, Or.inl wm_78⟩
theorem d_X3_becomeAfter_98 : pm_i e_X3_becomeAfter 98 .iload_n .iload 3 99 := Or.inl ⟨3, by decide +kernel, rfl, rfl⟩
theorem d_X3_becomeAfter_99 : pm_P e_X3_becomeAfter 99 3 100 := Or.inl ⟨3, by decide +kernel, by decide +kernel, rfl⟩
theorem d_X3_becomeAfter_100 : pm_B e_X3_becomeAfter 100 (fun z => .if_icmp .ge z) 109 103 := ⟨9, by decide +kernel, by decide, rfl⟩
theorem d_X3_becomeAfter_103 : pm_i e_X3_becomeAfter 103 .iload_n .iload 3 104 := Or.inl ⟨3, by decide +kernel, rfl, rfl⟩
theorem d_X3_becomeAfter_104 : pm_P e_X3_becomeAfter 104 1 105 := Or.inl ⟨1, by decide +kernel, by decide +kernel, rfl⟩
theorem d_X3_becomeAfter_105 : pm_D e_X3_becomeAfter 105 1 (.iadd) 106 := ⟨by decide +kernel, rfl⟩
theorem d_X3_becomeAfter_106 : pm_B e_X3_becomeAfter 106 (fun z => .goto z) 112 109 := ⟨6, by decide +kernel, by decide, rfl⟩
theorem d_X3_becomeAfter_109 : pm_i e_X3_becomeAfter 109 .iload_n .iload 3 110 := Or.inl ⟨3, by decide +kernel, rfl, rfl⟩
theorem d_X3_becomeAfter_110 : pm_P e_X3_becomeAfter 110 1 111 := Or.inl ⟨1, by decide +kernel, by decide +kernel, rfl⟩
theorem d_X3_becomeAfter_111 : pm_D e_X3_becomeAfter 111 1 (.isub) 112 := ⟨by decide +kernel, rfl⟩
theorem d_X3_becomeAfter_112 : pm_D e_X3_becomeAfter 112 1 (.iaload) 113 := ⟨by decide +kernel, rfl⟩
theorem d_X3_becomeAfter_113 : pm_D e_X3_becomeAfter 113 1 (.iastore) 114 := ⟨by decide +kernel, rfl⟩
theorem d_X3_becomeAfter_114 : pm_I e_X3_becomeAfter 114 3 1 117 := ⟨1, by decide +kernel, by decide +kernel, rfl⟩
theorem d_X3_becomeAfter_117 : pm_B e_X3_becomeAfter 117 (fun z => .goto z) 2 120 := ⟨-115, by decide +kernel, by decide, rfl⟩
theorem d_X3_becomeAfter_120 : pm_D e_X3_becomeAfter 120 1 (.return_) 121 := ⟨by decide +kernel, rfl⟩
theorem d_X3_changed_0 : pm_i e_X3_changed 0 .iload_n .iload 0 1 := Or.inl ⟨0, by decide +kernel, rfl, rfl⟩
theorem d_X3_changed_1 : pm_P e_X3_changed 1 6 3 := Or.inr <| Or.inl ⟨6, by decide +kernel, by decide +kernel, rfl⟩
theorem d_X3_changed_3 : pm_B e_X3_changed 3 (fun z => .if_icmp .ne z) 9 6 := ⟨6, by decide +kernel, by decide, rfl⟩
theorem d_X3_changed_6 : pm_P e_X3_changed 6 7 8 := Or.inr <| Or.inl ⟨7, by decide +kernel, by decide +kernel, rfl⟩
theorem d_X3_changed_8 : pm_D e_X3_changed 8 1 (.ireturn) 9 := ⟨by decide +kernel, rfl⟩
theorem d_X3_changed_9 : pm_i e_X3_changed 9 .iload_n .iload 0 10 := Or.inl ⟨0, by decide +kernel, rfl, rfl⟩
theorem d_X3_changed_10 : pm_P e_X3_changed 10 9 12 := Or.inr <| Or.inl ⟨9, by decide +kernel, by decide +kernel, rfl⟩
theorem d_X3_changed_12 : pm_B e_X3_changed 12 (fun z => .if_icmp .ne z) 20 15 := ⟨8, by decide +kernel, by decide, rfl⟩
theorem d_X3_changed_15 : pm_P e_X3_changed 15 8 17 := Or.inr <| Or.inl ⟨8, by decide +kernel, by decide +kernel, rfl⟩
theorem d_X3_changed_17 : pm_B e_X3_changed 17 (fun z => .goto z) 21 20 := ⟨4, by decide +kernel, by decide, rfl⟩
theorem d_X3_changed_20 : pm_i e_X3_changed 20 .iload_n .iload 0 21 := Or.inl ⟨0, by decide +kernel, rfl, rfl⟩
theorem d_X3_changed_21 : pm_D e_X3_changed 21 1 (.ireturn) 22 := ⟨by decide +kernel, rfl⟩
