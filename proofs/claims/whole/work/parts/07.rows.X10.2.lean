theorem d_X10_misfits_18 : pm_B e_X10_misfits 18 (fun z => .ifCond .ge z) 25 21 := ⟨7, by decide +kernel, by decide, rfl⟩
theorem d_X10_misfits_21 : pm_i e_X10_misfits 21 .iload_n .iload 3 22 := Or.inl ⟨3, by decide +kernel, rfl, rfl⟩
theorem d_X10_misfits_22 : pm_B e_X10_misfits 22 (fun z => .goto z) 31 25 := ⟨9, by decide +kernel, by decide, rfl⟩
theorem d_X10_misfits_25 : pm_i e_X10_misfits 25 .aload_n .aload 0 26 := Or.inl ⟨0, by decide +kernel, rfl, rfl⟩
theorem d_X10_misfits_26 : pm_i e_X10_misfits 26 .iload_n .iload 1 27 := Or.inl ⟨1, by decide +kernel, rfl, rfl⟩
theorem d_X10_misfits_27 : pm_i e_X10_misfits 27 .iload_n .iload 2 28 := Or.inl ⟨2, by decide +kernel, rfl, rfl⟩
theorem d_X10_misfits_28 : pm_kV e_X10_misfits 28 e_X10_misfitsOf RX10 2 31 := ⟨207, by decide +kernel, rfl, fit_X10_misfits_X10_misfitsOf, wm_1026, Or.inl ⟨wm_1024, wm_36⟩⟩
theorem d_X10_misfits_31 : pm_D e_X10_misfits 31 1 (.ireturn) 32 := ⟨by decide +kernel, rfl⟩
theorem d_X10_follows_0 : pm_i e_X10_follows 0 .aload_n .aload 0 1 := Or.inl ⟨0, by decide +kernel, rfl, rfl⟩
theorem d_X10_follows_1 : pm_i e_X10_follows 1 .iload_n .iload 1 2 := Or.inl ⟨1, by decide +kernel, rfl, rfl⟩
theorem d_X10_follows_2 : pm_kV e_X10_follows 2 e_X10_looked RX10 1 5 := ⟨201, by decide +kernel, rfl, fit_X10_follows_X10_looked, wm_1010, Or.inl ⟨wm_1008, wm_35⟩⟩
theorem d_X10_follows_5 : pm_i e_X10_follows 5 .istore_n .istore 2 6 := Or.inl ⟨2, by decide +kernel, rfl, rfl⟩
theorem d_X10_follows_6 : pm_i e_X10_follows 6 .iload_n .iload 2 7 := Or.inl ⟨2, by decide +kernel, rfl, rfl⟩
theorem d_X10_follows_7 : pm_B e_X10_follows 7 (fun z => .ifCond .ge z) 12 10 := ⟨5, by decide +kernel, by decide, rfl⟩
theorem d_X10_follows_10 : pm_i e_X10_follows 10 .iload_n .iload 2 11 := Or.inl ⟨2, by decide +kernel, rfl, rfl⟩
theorem d_X10_follows_11 : pm_D e_X10_follows 11 1 (.ireturn) 12 := ⟨by decide +kernel, rfl⟩
theorem d_X10_follows_12 : pm_P e_X10_follows 12 0 13 := Or.inl ⟨0, by decide +kernel, by decide +kernel, rfl⟩
theorem d_X10_follows_13 : pm_i e_X10_follows 13 .istore_n .istore 3 14 := Or.inl ⟨3, by decide +kernel, rfl, rfl⟩
theorem d_X10_follows_14 : pm_P e_X10_follows 14 1 15 := Or.inl ⟨1, by decide +kernel, by decide +kernel, rfl⟩
theorem d_X10_follows_15 : pm_i e_X10_follows 15 .istore_n .istore 4 17 := Or.inr ⟨by decide +kernel, rfl⟩
theorem d_X10_follows_17 : pm_i e_X10_follows 17 .iload_n .iload 4 19 := Or.inr ⟨by decide +kernel, rfl⟩
theorem d_X10_follows_19 : pm_P e_X10_follows 19 3 20 := Or.inl ⟨3, by decide +kernel, by decide +kernel, rfl⟩
theorem d_X10_follows_20 : pm_B e_X10_follows 20 (fun z => .if_icmp .ge z) 52 23 := ⟨32, by decide +kernel, by decide, rfl⟩
theorem d_X10_follows_23 : pm_i e_X10_follows 23 .aload_n .aload 0 24 := Or.inl ⟨0, by decide +kernel, rfl, rfl⟩
theorem d_X10_follows_24 : pm_i e_X10_follows 24 .iload_n .iload 1 25 := Or.inl ⟨1, by decide +kernel, rfl, rfl⟩
theorem d_X10_follows_25 : pm_i e_X10_follows 25 .iload_n .iload 4 27 := Or.inr ⟨by decide +kernel, rfl⟩
theorem d_X10_follows_27 : pm_kV e_X10_follows 27 e_X10_misfitsOf RX10 2 30 := ⟨207, by decide +kernel, rfl, fit_X10_follows_X10_misfitsOf, wm_1026, Or.inl ⟨wm_1024, wm_36⟩⟩
theorem d_X10_follows_30 : pm_i e_X10_follows 30 .aload_n .aload 0 31 := Or.inl ⟨0, by decide +kernel, rfl, rfl⟩
theorem d_X10_follows_31 : pm_i e_X10_follows 31 .iload_n .iload 1 32 := Or.inl ⟨1, by decide +kernel, rfl, rfl⟩
theorem d_X10_follows_32 : pm_i e_X10_follows 32 .iload_n .iload 3 33 := Or.inl ⟨3, by decide +kernel, rfl, rfl⟩
theorem d_X10_follows_33 : pm_kV e_X10_follows 33 e_X10_misfitsOf RX10 2 36 := ⟨207, by decide +kernel, rfl, fit_X10_follows_X10_misfitsOf, wm_1026, Or.inl ⟨wm_1024, wm_36⟩⟩
theorem d_X10_follows_36 : pm_B e_X10_follows 36 (fun z => .if_icmp .ge z) 44 39 := ⟨8, by decide +kernel, by decide, rfl⟩
theorem d_X10_follows_39 : pm_i e_X10_follows 39 .iload_n .iload 4 41 := Or.inr ⟨by decide +kernel, rfl⟩
theorem d_X10_follows_41 : pm_B e_X10_follows 41 (fun z => .goto z) 45 44 := ⟨4, by decide +kernel, by decide, rfl⟩
theorem d_X10_follows_44 : pm_i e_X10_follows 44 .iload_n .iload 3 45 := Or.inl ⟨3, by decide +kernel, rfl, rfl⟩
theorem d_X10_follows_45 : pm_i e_X10_follows 45 .istore_n .istore 3 46 := Or.inl ⟨3, by decide +kernel, rfl, rfl⟩
theorem d_X10_follows_46 : pm_I e_X10_follows 46 4 1 49 := ⟨1, by decide +kernel, by decide +kernel, rfl⟩
theorem d_X10_follows_49 : pm_B e_X10_follows 49 (fun z => .goto z) 17 52 := ⟨-32, by decide +kernel, by decide, rfl⟩
theorem d_X10_follows_52 : pm_i e_X10_follows 52 .aload_n .aload 0 53 := Or.inl ⟨0, by decide +kernel, rfl, rfl⟩
theorem d_X10_follows_53 : pm_i e_X10_follows 53 .aload_n .aload 0 54 := Or.inl ⟨0, by decide +kernel, rfl, rfl⟩
theorem d_X10_follows_54 : pm_i e_X10_follows 54 .iload_n .iload 1 55 := Or.inl ⟨1, by decide +kernel, rfl, rfl⟩
theorem d_X10_follows_55 : pm_i e_X10_follows 55 .iload_n .iload 3 56 := Or.inl ⟨3, by decide +kernel, rfl, rfl⟩
theorem d_X10_follows_56 : pm_kV e_X10_follows 56 e_X10_misfitsOf RX10 2 59 := ⟨207, by decide +kernel, rfl, fit_X10_follows_X10_misfitsOf, wm_1026, Or.inl ⟨wm_1024, wm_36⟩⟩
theorem d_X10_follows_59 : pm_D e_X10_follows 59 1 (.i2l) 60 := ⟨by decide +kernel, rfl⟩
theorem d_X10_follows_60 : pm_F e_X10_follows 60 .putfield (RX10, "asked", "J") 63 := ⟨210, by decide +kernel, rfl, Or.inl wm_738⟩
theorem d_X10_follows_63 : pm_i e_X10_follows 63 .iload_n .iload 3 64 := Or.inl ⟨3, by decide +kernel, rfl, rfl⟩
theorem d_X10_follows_64 : pm_D e_X10_follows 64 1 (.ireturn) 65 := ⟨by decide +kernel, rfl⟩
theorem d_X10_lacks_0 : pm_i e_X10_lacks 0 .aload_n .aload 0 1 := Or.inl ⟨0, by decide +kernel, rfl, rfl⟩
theorem d_X10_lacks_1 : pm_i e_X10_lacks 1 .iload_n .iload 1 2 := Or.inl ⟨1, by decide +kernel, rfl, rfl⟩
theorem d_X10_lacks_2 : pm_kV e_X10_lacks 2 e_X10_looked RX10 1 5 := ⟨201, by decide +kernel, rfl, fit_X10_lacks_X10_looked, wm_1010, Or.inl ⟨wm_1008, wm_35⟩⟩
theorem d_X10_lacks_5 : pm_i e_X10_lacks 5 .istore_n .istore 2 6 := Or.inl ⟨2, by decide +kernel, rfl, rfl⟩
theorem d_X10_lacks_6 : pm_i e_X10_lacks 6 .iload_n .iload 2 7 := Or.inl ⟨2, by decide +kernel, rfl, rfl⟩
theorem d_X10_lacks_7 : pm_B e_X10_lacks 7 (fun z => .ifCond .ge z) 12 10 := ⟨5, by decide +kernel, by decide, rfl⟩
theorem d_X10_lacks_10 : pm_i e_X10_lacks 10 .iload_n .iload 2 11 := Or.inl ⟨2, by decide +kernel, rfl, rfl⟩
theorem d_X10_lacks_11 : pm_D e_X10_lacks 11 1 (.ireturn) 12 := ⟨by decide +kernel, rfl⟩
theorem d_X10_lacks_12 : pm_PL e_X10_lacks 12 (-1) 15 := Or.inr ⟨213, by decide +kernel, wm_1040, rfl⟩
theorem d_X10_lacks_15 : pm_i e_X10_lacks 15 .lstore_n .lstore 3 16 := Or.inl ⟨3, by decide +kernel, rfl, rfl⟩
theorem d_X10_lacks_16 : pm_P e_X10_lacks 16 64 18 := Or.inr <| Or.inl ⟨64, by decide +kernel, by decide +kernel, rfl⟩
theorem d_X10_lacks_18 : pm_i e_X10_lacks 18 .istore_n .istore 5 20 := Or.inr ⟨by decide +kernel, rfl⟩
theorem d_X10_lacks_20 : pm_P e_X10_lacks 20 0 21 := Or.inl ⟨0, by decide +kernel, by decide +kernel, rfl⟩
theorem d_X10_lacks_21 : pm_i e_X10_lacks 21 .istore_n .istore 6 23 := Or.inr ⟨by decide +kernel, rfl⟩
theorem d_X10_lacks_23 : pm_i e_X10_lacks 23 .iload_n .iload 6 25 := Or.inr ⟨by decide +kernel, rfl⟩
theorem d_X10_lacks_25 : pm_i e_X10_lacks 25 .aload_n .aload 0 26 := Or.inl ⟨0, by decide +kernel, rfl, rfl⟩
theorem d_X10_lacks_26 : pm_F e_X10_lacks 26 .getfield (RX10, "sizes", "[I") 29 := ⟨71, by decide +kernel, rfl, Or.inl wm_762⟩
theorem d_X10_lacks_29 : pm_i e_X10_lacks 29 .iload_n .iload 1 30 := Or.inl ⟨1, by decide +kernel, rfl, rfl⟩
theorem d_X10_lacks_30 : pm_D e_X10_lacks 30 1 (.iaload) 31 := ⟨by decide +kernel, rfl⟩
theorem d_X10_lacks_31 : pm_B e_X10_lacks 31 (fun z => .if_icmp .ge z) 85 34 := ⟨54, by decide +kernel, by decide, rfl⟩
theorem d_X10_lacks_34 : pm_i e_X10_lacks 34 .aload_n .aload 0 35 := Or.inl ⟨0, by decide +kernel, rfl, rfl⟩
theorem d_X10_lacks_35 : pm_i e_X10_lacks 35 .iload_n .iload 1 36 := Or.inl ⟨1, by decide +kernel, rfl, rfl⟩
theorem d_X10_lacks_36 : pm_i e_X10_lacks 36 .iload_n .iload 6 38 := Or.inr ⟨by decide +kernel, rfl⟩
theorem d_X10_lacks_38 : pm_kV e_X10_lacks 38 e_X10_leaf RX10 2 41 := ⟨204, by decide +kernel, rfl, fit_X10_lacks_X10_leaf, wm_1030, Or.inl ⟨wm_1028, wm_37⟩⟩
theorem d_X10_lacks_41 : pm_i e_X10_lacks 41 .istore_n .istore 7 43 := Or.inr ⟨by decide +kernel, rfl⟩
theorem d_X10_lacks_43 : pm_i e_X10_lacks 43 .iload_n .iload 7 45 := Or.inr ⟨by decide +kernel, rfl⟩
theorem d_X10_lacks_45 : pm_P e_X10_lacks 45 0 46 := Or.inl ⟨0, by decide +kernel, by decide +kernel, rfl⟩
theorem d_X10_lacks_46 : pm_P e_X10_lacks 46 63 48 := Or.inr <| Or.inl ⟨63, by decide +kernel, by decide +kernel, rfl⟩
theorem d_X10_lacks_48 : pm_kS e_X10_lacks 48 e_X10_in 3 51 := ⟨106, by decide +kernel, rfl, fit_X10_lacks_X10_in, wm_853, Or.inl wm_852⟩
theorem d_X10_lacks_51 : pm_B e_X10_lacks 51 (fun z => .ifCond .eq z) 79 54 := ⟨28, by decide +kernel, by decide, rfl⟩
theorem d_X10_lacks_54 : pm_i e_X10_lacks 54 .lload_n .lload 3 55 := Or.inl ⟨3, by decide +kernel, rfl, rfl⟩
theorem d_X10_lacks_55 : pm_i e_X10_lacks 55 .iload_n .iload 7 57 := Or.inr ⟨by decide +kernel, rfl⟩
theorem d_X10_lacks_57 : pm_D e_X10_lacks 57 1 (.lshr) 58 := ⟨by decide +kernel, rfl⟩
theorem d_X10_lacks_58 : pm_PL e_X10_lacks 58 1 59 := Or.inl ⟨1, by decide +kernel, by decide +kernel, rfl⟩
theorem d_X10_lacks_59 : pm_D e_X10_lacks 59 1 (.land) 60 := ⟨by decide +kernel, rfl⟩
theorem d_X10_lacks_60 : pm_PL e_X10_lacks 60 1 61 := Or.inl ⟨1, by decide +kernel, by decide +kernel, rfl⟩
theorem d_X10_lacks_61 : pm_D e_X10_lacks 61 1 (.lcmp) 62 := ⟨by decide +kernel, rfl⟩
theorem d_X10_lacks_62 : pm_B e_X10_lacks 62 (fun z => .ifCond .ne z) 79 65 := ⟨17, by decide +kernel, by decide, rfl⟩
theorem d_X10_lacks_65 : pm_i e_X10_lacks 65 .lload_n .lload 3 66 := Or.inl ⟨3, by decide +kernel, rfl, rfl⟩
theorem d_X10_lacks_66 : pm_PL e_X10_lacks 66 1 67 := Or.inl ⟨1, by decide +kernel, by decide +kernel, rfl⟩
theorem d_X10_lacks_67 : pm_i e_X10_lacks 67 .iload_n .iload 7 69 := Or.inr ⟨by decide +kernel, rfl⟩
theorem d_X10_lacks_69 : pm_D e_X10_lacks 69 1 (.lshl) 70 := ⟨by decide +kernel, rfl⟩
theorem d_X10_lacks_70 : pm_PL e_X10_lacks 70 (-1) 73 := Or.inr ⟨213, by decide +kernel, wm_1040, rfl⟩
theorem d_X10_lacks_73 : pm_D e_X10_lacks 73 1 (.lxor) 74 := ⟨by decide +kernel, rfl⟩
theorem d_X10_lacks_74 : pm_D e_X10_lacks 74 1 (.land) 75 := ⟨by decide +kernel, rfl⟩
theorem d_X10_lacks_75 : pm_i e_X10_lacks 75 .lstore_n .lstore 3 76 := Or.inl ⟨3, by decide +kernel, rfl, rfl⟩
theorem d_X10_lacks_76 : pm_I e_X10_lacks 76 5 (-1) 79 := ⟨-1, by decide +kernel, by decide +kernel, rfl⟩
theorem d_X10_lacks_79 : pm_I e_X10_lacks 79 6 1 82 := ⟨1, by decide +kernel, by decide +kernel, rfl⟩
theorem d_X10_lacks_82 : pm_B e_X10_lacks 82 (fun z => .goto z) 23 85 := ⟨-59, by decide +kernel, by decide, rfl⟩
theorem d_X10_lacks_85 : pm_i e_X10_lacks 85 .aload_n .aload 0 86 := Or.inl ⟨0, by decide +kernel, rfl, rfl⟩
theorem d_X10_lacks_86 : pm_i e_X10_lacks 86 .lload_n .lload 3 87 := Or.inl ⟨3, by decide +kernel, rfl, rfl⟩
theorem d_X10_lacks_87 : pm_F e_X10_lacks 87 .putfield (RX10, "asked", "J") 90 := ⟨210, by decide +kernel, rfl, Or.inl wm_738⟩
theorem d_X10_lacks_90 : pm_i e_X10_lacks 90 .iload_n .iload 5 92 := Or.inr ⟨by decide +kernel, rfl⟩
theorem d_X10_lacks_92 : pm_D e_X10_lacks 92 1 (.ireturn) 93 := ⟨by decide +kernel, rfl⟩
theorem d_X10_swap_0 : pm_i e_X10_swap 0 .aload_n .aload 0 1 := Or.inl ⟨0, by decide +kernel, rfl, rfl⟩
theorem d_X10_swap_1 : pm_F e_X10_swap 1 .getfield (RX10, "rows", "[I") 4 := ⟨74, by decide +kernel, rfl, Or.inl wm_763⟩
theorem d_X10_swap_4 : pm_P e_X10_swap 4 64 6 := Or.inr <| Or.inl ⟨64, by decide +kernel, by decide +kernel, rfl⟩
theorem d_X10_swap_6 : pm_i e_X10_swap 6 .iload_n .iload 1 7 := Or.inl ⟨1, by decide +kernel, rfl, rfl⟩
theorem d_X10_swap_7 : pm_D e_X10_swap 7 1 (.imul) 8 := ⟨by decide +kernel, rfl⟩
theorem d_X10_swap_8 : pm_i e_X10_swap 8 .iload_n .iload 2 9 := Or.inl ⟨2, by decide +kernel, rfl, rfl⟩
theorem d_X10_swap_9 : pm_D e_X10_swap 9 1 (.iadd) 10 := ⟨by decide +kernel, rfl⟩
theorem d_X10_swap_10 : pm_D e_X10_swap 10 1 (.iaload) 11 := ⟨by decide +kernel, rfl⟩
theorem d_X10_swap_11 : pm_i e_X10_swap 11 .istore_n .istore 4 13 := Or.inr ⟨by decide +kernel, rfl⟩
theorem d_X10_swap_13 : pm_i e_X10_swap 13 .aload_n .aload 0 14 := Or.inl ⟨0, by decide +kernel, rfl, rfl⟩
theorem d_X10_swap_14 : pm_F e_X10_swap 14 .getfield (RX10, "rows", "[I") 17 := ⟨74, by decide +kernel, rfl, Or.inl wm_763⟩
theorem d_X10_swap_17 : pm_P e_X10_swap 17 64 19 := Or.inr <| Or.inl ⟨64, by decide +kernel, by decide +kernel, rfl⟩
theorem d_X10_swap_19 : pm_i e_X10_swap 19 .iload_n .iload 1 20 := Or.inl ⟨1, by decide +kernel, rfl, rfl⟩
theorem d_X10_swap_20 : pm_D e_X10_swap 20 1 (.imul) 21 := ⟨by decide +kernel, rfl⟩
theorem d_X10_swap_21 : pm_i e_X10_swap 21 .iload_n .iload 2 22 := Or.inl ⟨2, by decide +kernel, rfl, rfl⟩
theorem d_X10_swap_22 : pm_D e_X10_swap 22 1 (.iadd) 23 := ⟨by decide +kernel, rfl⟩
theorem d_X10_swap_23 : pm_i e_X10_swap 23 .aload_n .aload 0 24 := Or.inl ⟨0, by decide +kernel, rfl, rfl⟩
theorem d_X10_swap_24 : pm_F e_X10_swap 24 .getfield (RX10, "rows", "[I") 27 := ⟨74, by decide +kernel, rfl, Or.inl wm_763⟩
theorem d_X10_swap_27 : pm_P e_X10_swap 27 64 29 := Or.inr <| Or.inl ⟨64, by decide +kernel, by decide +kernel, rfl⟩
theorem d_X10_swap_29 : pm_i e_X10_swap 29 .iload_n .iload 1 30 := Or.inl ⟨1, by decide +kernel, rfl, rfl⟩
theorem d_X10_swap_30 : pm_D e_X10_swap 30 1 (.imul) 31 := ⟨by decide +kernel, rfl⟩
theorem d_X10_swap_31 : pm_i e_X10_swap 31 .iload_n .iload 3 32 := Or.inl ⟨3, by decide +kernel, rfl, rfl⟩
theorem d_X10_swap_32 : pm_D e_X10_swap 32 1 (.iadd) 33 := ⟨by decide +kernel, rfl⟩
theorem d_X10_swap_33 : pm_D e_X10_swap 33 1 (.iaload) 34 := ⟨by decide +kernel, rfl⟩
theorem d_X10_swap_34 : pm_D e_X10_swap 34 1 (.iastore) 35 := ⟨by decide +kernel, rfl⟩
theorem d_X10_swap_35 : pm_i e_X10_swap 35 .aload_n .aload 0 36 := Or.inl ⟨0, by decide +kernel, rfl, rfl⟩
theorem d_X10_swap_36 : pm_F e_X10_swap 36 .getfield (RX10, "rows", "[I") 39 := ⟨74, by decide +kernel, rfl, Or.inl wm_763⟩
theorem d_X10_swap_39 : pm_P e_X10_swap 39 64 41 := Or.inr <| Or.inl ⟨64, by decide +kernel, by decide +kernel, rfl⟩
theorem d_X10_swap_41 : pm_i e_X10_swap 41 .iload_n .iload 1 42 := Or.inl ⟨1, by decide +kernel, rfl, rfl⟩
theorem d_X10_swap_42 : pm_D e_X10_swap 42 1 (.imul) 43 := ⟨by decide +kernel, rfl⟩
theorem d_X10_swap_43 : pm_i e_X10_swap 43 .iload_n .iload 3 44 := Or.inl ⟨3, by decide +kernel, rfl, rfl⟩
theorem d_X10_swap_44 : pm_D e_X10_swap 44 1 (.iadd) 45 := ⟨by decide +kernel, rfl⟩
theorem d_X10_swap_45 : pm_i e_X10_swap 45 .iload_n .iload 4 47 := Or.inr ⟨by decide +kernel, rfl⟩
theorem d_X10_swap_47 : pm_D e_X10_swap 47 1 (.iastore) 48 := ⟨by decide +kernel, rfl⟩
theorem d_X10_swap_48 : pm_D e_X10_swap 48 1 (.return_) 49 := ⟨by decide +kernel, rfl⟩
theorem d_X10_swapped_0 : pm_i e_X10_swapped 0 .iload_n .iload 2 1 := Or.inl ⟨2, by decide +kernel, rfl, rfl⟩
theorem d_X10_swapped_1 : pm_P e_X10_swapped 1 0 2 := Or.inl ⟨0, by decide +kernel, by decide +kernel, rfl⟩
theorem d_X10_swapped_2 : pm_P e_X10_swapped 2 2 3 := Or.inl ⟨2, by decide +kernel, by decide +kernel, rfl⟩
theorem d_X10_swapped_3 : pm_kS e_X10_swapped 3 e_X10_in 3 6 := ⟨106, by decide +kernel, rfl, fit_X10_swapped_X10_in, wm_853, Or.inl wm_852⟩
theorem d_X10_swapped_6 : pm_B e_X10_swapped 6 (fun z => .ifCond .ne z) 11 9 := ⟨5, by decide +kernel, by decide, rfl⟩
theorem d_X10_swapped_9 : pm_P e_X10_swapped 9 (-1) 10 := Or.inl ⟨-1, by decide +kernel, by decide +kernel, rfl⟩
theorem d_X10_swapped_10 : pm_D e_X10_swapped 10 1 (.ireturn) 11 := ⟨by decide +kernel, rfl⟩
theorem d_X10_swapped_11 : pm_i e_X10_swapped 11 .aload_n .aload 0 12 := Or.inl ⟨0, by decide +kernel, rfl, rfl⟩
theorem d_X10_swapped_12 : pm_i e_X10_swapped 12 .iload_n .iload 1 13 := Or.inl ⟨1, by decide +kernel, rfl, rfl⟩
theorem d_X10_swapped_13 : pm_kV e_X10_swapped 13 e_X10_looked RX10 1 16 := ⟨201, by decide +kernel, rfl, fit_X10_swapped_X10_looked, wm_1010, Or.inl ⟨wm_1008, wm_35⟩⟩
theorem d_X10_swapped_16 : pm_i e_X10_swapped 16 .istore_n .istore 3 17 := Or.inl ⟨3, by decide +kernel, rfl, rfl⟩
theorem d_X10_swapped_17 : pm_i e_X10_swapped 17 .iload_n .iload 3 18 := Or.inl ⟨3, by decide +kernel, rfl, rfl⟩
theorem d_X10_swapped_18 : pm_B e_X10_swapped 18 (fun z => .ifCond .ge z) 23 21 := ⟨5, by decide +kernel, by decide, rfl⟩
theorem d_X10_swapped_21 : pm_i e_X10_swapped 21 .iload_n .iload 3 22 := Or.inl ⟨3, by decide +kernel, rfl, rfl⟩
theorem d_X10_swapped_22 : pm_D e_X10_swapped 22 1 (.ireturn) 23 := ⟨by decide +kernel, rfl⟩
theorem d_X10_swapped_23 : pm_i e_X10_swapped 23 .aload_n .aload 0 24 := Or.inl ⟨0, by decide +kernel, rfl, rfl⟩
theorem d_X10_swapped_24 : pm_i e_X10_swapped 24 .iload_n .iload 1 25 := Or.inl ⟨1, by decide +kernel, rfl, rfl⟩
theorem d_X10_swapped_25 : pm_i e_X10_swapped 25 .iload_n .iload 2 26 := Or.inl ⟨2, by decide +kernel, rfl, rfl⟩
theorem d_X10_swapped_26 : pm_kV e_X10_swapped 26 e_X10_misfitsOf RX10 2 29 := ⟨207, by decide +kernel, rfl, fit_X10_swapped_X10_misfitsOf, wm_1026, Or.inl ⟨wm_1024, wm_36⟩⟩
theorem d_X10_swapped_29 : pm_B e_X10_swapped 29 (fun z => .ifCond .ne z) 34 32 := ⟨5, by decide +kernel, by decide, rfl⟩
theorem d_X10_swapped_32 : pm_P e_X10_swapped 32 0 33 := Or.inl ⟨0, by decide +kernel, by decide +kernel, rfl⟩
theorem d_X10_swapped_33 : pm_D e_X10_swapped 33 1 (.ireturn) 34 := ⟨by decide +kernel, rfl⟩
theorem d_X10_swapped_34 : pm_P e_X10_swapped 34 0 35 := Or.inl ⟨0, by decide +kernel, by decide +kernel, rfl⟩
theorem d_X10_swapped_35 : pm_i e_X10_swapped 35 .istore_n .istore 4 37 := Or.inr ⟨by decide +kernel, rfl⟩
theorem d_X10_swapped_37 : pm_i e_X10_swapped 37 .iload_n .iload 4 39 := Or.inr ⟨by decide +kernel, rfl⟩
theorem d_X10_swapped_39 : pm_i e_X10_swapped 39 .aload_n .aload 0 40 := Or.inl ⟨0, by decide +kernel, rfl, rfl⟩
theorem d_X10_swapped_40 : pm_F e_X10_swapped 40 .getfield (RX10, "sizes", "[I") 43 := ⟨71, by decide +kernel, rfl, Or.inl wm_762⟩
theorem d_X10_swapped_43 : pm_i e_X10_swapped 43 .iload_n .iload 1 44 := Or.inl ⟨1, by decide +kernel, rfl, rfl⟩
theorem d_X10_swapped_44 : pm_D e_X10_swapped 44 1 (.iaload) 45 := ⟨by decide +kernel, rfl⟩
theorem d_X10_swapped_45 : pm_B e_X10_swapped 45 (fun z => .if_icmp .ge z) 125 48 := ⟨80, by decide +kernel, by decide, rfl⟩
theorem d_X10_swapped_48 : pm_i e_X10_swapped 48 .iload_n .iload 4 50 := Or.inr ⟨by decide +kernel, rfl⟩
theorem d_X10_swapped_50 : pm_P e_X10_swapped 50 1 51 := Or.inl ⟨1, by decide +kernel, by decide +kernel, rfl⟩
theorem d_X10_swapped_51 : pm_D e_X10_swapped 51 1 (.iadd) 52 := ⟨by decide +kernel, rfl⟩
theorem d_X10_swapped_52 : pm_i e_X10_swapped 52 .istore_n .istore 5 54 := Or.inr ⟨by decide +kernel, rfl⟩
theorem d_X10_swapped_54 : pm_i e_X10_swapped 54 .iload_n .iload 5 56 := Or.inr ⟨by decide +kernel, rfl⟩
theorem d_X10_swapped_56 : pm_i e_X10_swapped 56 .aload_n .aload 0 57 := Or.inl ⟨0, by decide +kernel, rfl, rfl⟩
theorem d_X10_swapped_57 : pm_F e_X10_swapped 57 .getfield (RX10, "sizes", "[I") 60 := ⟨71, by decide +kernel, rfl, Or.inl wm_762⟩
theorem d_X10_swapped_60 : pm_i e_X10_swapped 60 .iload_n .iload 1 61 := Or.inl ⟨1, by decide +kernel, rfl, rfl⟩
theorem d_X10_swapped_61 : pm_D e_X10_swapped 61 1 (.iaload) 62 := ⟨by decide +kernel, rfl⟩
theorem d_X10_swapped_62 : pm_B e_X10_swapped 62 (fun z => .if_icmp .ge z) 119 65 := ⟨57, by decide +kernel, by decide, rfl⟩
theorem d_X10_swapped_65 : pm_i e_X10_swapped 65 .aload_n .aload 0 66 := Or.inl ⟨0, by decide +kernel, rfl, rfl⟩
theorem d_X10_swapped_66 : pm_i e_X10_swapped 66 .iload_n .iload 1 67 := Or.inl ⟨1, by decide +kernel, rfl, rfl⟩
theorem d_X10_swapped_67 : pm_i e_X10_swapped 67 .iload_n .iload 4 69 := Or.inr ⟨by decide +kernel, rfl⟩
theorem d_X10_swapped_69 : pm_i e_X10_swapped 69 .iload_n .iload 5 71 := Or.inr ⟨by decide +kernel, rfl⟩
theorem d_X10_swapped_71 : pm_kV e_X10_swapped 71 e_X10_swap RX10 3 74 := ⟨215, by decide +kernel, rfl, fit_X10_swapped_X10_swap, wm_1047, Or.inl ⟨wm_1045, wm_38⟩⟩
theorem d_X10_swapped_74 : pm_i e_X10_swapped 74 .aload_n .aload 0 75 := Or.inl ⟨0, by decide +kernel, rfl, rfl⟩
theorem d_X10_swapped_75 : pm_i e_X10_swapped 75 .iload_n .iload 1 76 := Or.inl ⟨1, by decide +kernel, rfl, rfl⟩
theorem d_X10_swapped_76 : pm_i e_X10_swapped 76 .iload_n .iload 2 77 := Or.inl ⟨2, by decide +kernel, rfl, rfl⟩
theorem d_X10_swapped_77 : pm_kV e_X10_swapped 77 e_X10_misfitsOf RX10 2 80 := ⟨207, by decide +kernel, rfl, fit_X10_swapped_X10_misfitsOf, wm_1026, Or.inl ⟨wm_1024, wm_36⟩⟩
theorem d_X10_swapped_80 : pm_B e_X10_swapped 80 (fun z => .ifCond .ne z) 87 83 := ⟨7, by decide +kernel, by decide, rfl⟩
theorem d_X10_swapped_83 : pm_P e_X10_swapped 83 1 84 := Or.inl ⟨1, by decide +kernel, by decide +kernel, rfl⟩
theorem d_X10_swapped_84 : pm_B e_X10_swapped 84 (fun z => .goto z) 88 87 := ⟨4, by decide +kernel, by decide, rfl⟩
theorem d_X10_swapped_87 : pm_P e_X10_swapped 87 0 88 := Or.inl ⟨0, by decide +kernel, by decide +kernel, rfl⟩
theorem d_X10_swapped_88 : pm_i e_X10_swapped 88 .istore_n .istore 6 90 := Or.inr ⟨by decide +kernel, rfl⟩
theorem d_X10_swapped_90 : pm_i e_X10_swapped 90 .aload_n .aload 0 91 := Or.inl ⟨0, by decide +kernel, rfl, rfl⟩
theorem d_X10_swapped_91 : pm_i e_X10_swapped 91 .iload_n .iload 1 92 := Or.inl ⟨1, by decide +kernel, rfl, rfl⟩
theorem d_X10_swapped_92 : pm_i e_X10_swapped 92 .iload_n .iload 4 94 := Or.inr ⟨by decide +kernel, rfl⟩
theorem d_X10_swapped_94 : pm_i e_X10_swapped 94 .iload_n .iload 5 96 := Or.inr ⟨by decide +kernel, rfl⟩
theorem d_X10_swapped_96 : pm_kV e_X10_swapped 96 e_X10_swap RX10 3 99 := ⟨215, by decide +kernel, rfl, fit_X10_swapped_X10_swap, wm_1047, Or.inl ⟨wm_1045, wm_38⟩⟩
theorem d_X10_swapped_99 : pm_i e_X10_swapped 99 .iload_n .iload 6 101 := Or.inr ⟨by decide +kernel, rfl⟩
theorem d_X10_swapped_101 : pm_B e_X10_swapped 101 (fun z => .ifCond .eq z) 113 104 := ⟨12, by decide +kernel, by decide, rfl⟩
theorem d_X10_swapped_104 : pm_P e_X10_swapped 104 100 106 := Or.inr <| Or.inl ⟨100, by decide +kernel, by decide +kernel, rfl⟩
theorem d_X10_swapped_106 : pm_i e_X10_swapped 106 .iload_n .iload 4 108 := Or.inr ⟨by decide +kernel, rfl⟩
theorem d_X10_swapped_108 : pm_D e_X10_swapped 108 1 (.imul) 109 := ⟨by decide +kernel, rfl⟩
theorem d_X10_swapped_109 : pm_i e_X10_swapped 109 .iload_n .iload 5 111 := Or.inr ⟨by decide +kernel, rfl⟩
theorem d_X10_swapped_111 : pm_D e_X10_swapped 111 1 (.iadd) 112 := ⟨by decide +kernel, rfl⟩
theorem d_X10_swapped_112 : pm_D e_X10_swapped 112 1 (.ireturn) 113 := ⟨by decide +kernel, rfl⟩
theorem d_X10_swapped_113 : pm_I e_X10_swapped 113 5 1 116 := ⟨1, by decide +kernel, by decide +kernel, rfl⟩
theorem d_X10_swapped_116 : pm_B e_X10_swapped 116 (fun z => .goto z) 54 119 := ⟨-62, by decide +kernel, by decide, rfl⟩
theorem d_X10_swapped_119 : pm_I e_X10_swapped 119 4 1 122 := ⟨1, by decide +kernel, by decide +kernel, rfl⟩
theorem d_X10_swapped_122 : pm_B e_X10_swapped 122 (fun z => .goto z) 37 125 := ⟨-85, by decide +kernel, by decide, rfl⟩
theorem d_X10_swapped_125 : pm_P e_X10_swapped 125 (-9) 127 := Or.inr <| Or.inl ⟨-9, by decide +kernel, by decide +kernel, rfl⟩
theorem d_X10_swapped_127 : pm_D e_X10_swapped 127 1 (.ireturn) 128 := ⟨by decide +kernel, rfl⟩
theorem d_X10_record_0 : pm_i e_X10_record 0 .iload_n .iload 1 1 := Or.inl ⟨1, by decide +kernel, rfl, rfl⟩
theorem d_X10_record_1 : pm_kS e_X10_record 1 e_X10_isRow 1 4 := ⟨198, by decide +kernel, rfl, fit_X10_record_X10_isRow, wm_1002, Or.inl wm_1001⟩
theorem d_X10_record_4 : pm_B e_X10_record 4 (fun z => .ifCond .eq z) 26 7 := ⟨22, by decide +kernel, by decide, rfl⟩
theorem d_X10_record_7 : pm_i e_X10_record 7 .aload_n .aload 0 8 := Or.inl ⟨0, by decide +kernel, rfl, rfl⟩
theorem d_X10_record_8 : pm_i e_X10_record 8 .iload_n .iload 2 9 := Or.inl ⟨2, by decide +kernel, rfl, rfl⟩
theorem d_X10_record_9 : pm_kV e_X10_record 9 e_X10_isCaster RX10 1 12 := ⟨118, by decide +kernel, rfl, fit_X10_record_X10_isCaster, wm_865, Or.inl ⟨wm_863, wm_20⟩⟩
theorem d_X10_record_12 : pm_B e_X10_record 12 (fun z => .ifCond .eq z) 26 15 := ⟨14, by decide +kernel, by decide, rfl⟩
theorem d_X10_record_15 : pm_i e_X10_record 15 .iload_n .iload 5 17 := Or.inr ⟨by decide +kernel, rfl⟩
theorem d_X10_record_17 : pm_P e_X10_record 17 0 18 := Or.inl ⟨0, by decide +kernel, by decide +kernel, rfl⟩
theorem d_X10_record_18 : pm_P e_X10_record 18 64 20 := Or.inr <| Or.inl ⟨64, by decide +kernel, by decide +kernel, rfl⟩
theorem d_X10_record_20 : pm_kS e_X10_record 20 e_X10_in 3 23 := ⟨106, by decide +kernel, rfl, fit_X10_record_X10_in, wm_853, Or.inl wm_852⟩
theorem d_X10_record_23 : pm_B e_X10_record 23 (fun z => .ifCond .ne z) 28 26 := ⟨5, by decide +kernel, by decide, rfl⟩
theorem d_X10_record_26 : pm_P e_X10_record 26 (-1) 27 := Or.inl ⟨-1, by decide +kernel, by decide +kernel, rfl⟩
theorem d_X10_record_27 : pm_D e_X10_record 27 1 (.ireturn) 28 := ⟨by decide +kernel, rfl⟩
theorem d_X10_record_28 : pm_i e_X10_record 28 .aload_n .aload 0 29 := Or.inl ⟨0, by decide +kernel, rfl, rfl⟩
theorem d_X10_record_29 : pm_F e_X10_record 29 .getfield (RX10, "sizes", "[I") 32 := ⟨71, by decide +kernel, rfl, Or.inl wm_762⟩
theorem d_X10_record_32 : pm_i e_X10_record 32 .iload_n .iload 1 33 := Or.inl ⟨1, by decide +kernel, rfl, rfl⟩
theorem d_X10_record_33 : pm_i e_X10_record 33 .iload_n .iload 5 35 := Or.inr ⟨by decide +kernel, rfl⟩
theorem d_X10_record_35 : pm_D e_X10_record 35 1 (.iastore) 36 := ⟨by decide +kernel, rfl⟩
theorem d_X10_record_36 : pm_i e_X10_record 36 .aload_n .aload 0 37 := Or.inl ⟨0, by decide +kernel, rfl, rfl⟩
theorem d_X10_record_37 : pm_i e_X10_record 37 .lload_n .lload 3 38 := Or.inl ⟨3, by decide +kernel, rfl, rfl⟩
theorem d_X10_record_38 : pm_F e_X10_record 38 .putfield (RX10, "seed", "J") 41 := ⟨170, by decide +kernel, rfl, Or.inl wm_756⟩
theorem d_X10_record_41 : pm_P e_X10_record 41 0 42 := Or.inl ⟨0, by decide +kernel, by decide +kernel, rfl⟩
theorem d_X10_record_42 : pm_i e_X10_record 42 .istore_n .istore 6 44 := Or.inr ⟨by decide +kernel, rfl⟩
theorem d_X10_record_44 : pm_i e_X10_record 44 .iload_n .iload 6 46 := Or.inr ⟨by decide +kernel, rfl⟩
theorem d_X10_record_46 : pm_P e_X10_record 46 64 48 := Or.inr <| Or.inl ⟨64, by decide +kernel, by decide +kernel, rfl⟩
theorem d_X10_record_48 : pm_B e_X10_record 48 (fun z => .if_icmp .ge z) 85 51 := ⟨37, by decide +kernel, by decide, rfl⟩
theorem d_X10_record_51 : pm_i e_X10_record 51 .aload_n .aload 0 52 := Or.inl ⟨0, by decide +kernel, rfl, rfl⟩
theorem d_X10_record_52 : pm_F e_X10_record 52 .getfield (RX10, "rows", "[I") 55 := ⟨74, by decide +kernel, rfl, Or.inl wm_763⟩
theorem d_X10_record_55 : pm_P e_X10_record 55 64 57 := Or.inr <| Or.inl ⟨64, by decide +kernel, by decide +kernel, rfl⟩
theorem d_X10_record_57 : pm_i e_X10_record 57 .iload_n .iload 1 58 := Or.inl ⟨1, by decide +kernel, rfl, rfl⟩
theorem d_X10_record_58 : pm_D e_X10_record 58 1 (.imul) 59 := ⟨by decide +kernel, rfl⟩
theorem d_X10_record_59 : pm_i e_X10_record 59 .iload_n .iload 6 61 := Or.inr ⟨by decide +kernel, rfl⟩
theorem d_X10_record_61 : pm_D e_X10_record 61 1 (.iadd) 62 := ⟨by decide +kernel, rfl⟩
theorem d_X10_record_62 : pm_i e_X10_record 62 .iload_n .iload 6 64 := Or.inr ⟨by decide +kernel, rfl⟩
theorem d_X10_record_64 : pm_i e_X10_record 64 .iload_n .iload 5 66 := Or.inr ⟨by decide +kernel, rfl⟩
theorem d_X10_record_66 : pm_B e_X10_record 66 (fun z => .if_icmp .ge z) 77 69 := ⟨11, by decide +kernel, by decide, rfl⟩
theorem d_X10_record_69 : pm_i e_X10_record 69 .aload_n .aload 0 70 := Or.inl ⟨0, by decide +kernel, rfl, rfl⟩
theorem d_X10_record_70 : pm_i e_X10_record 70 .iload_n .iload 2 71 := Or.inl ⟨2, by decide +kernel, rfl, rfl⟩
theorem d_X10_record_71 : pm_kV e_X10_record 71 e_X10_draws RX10 1 74 := ⟨180, by decide +kernel, rfl, fit_X10_record_X10_draws, wm_945, Or.inl ⟨wm_943, wm_32⟩⟩
theorem d_X10_record_74 : pm_B e_X10_record 74 (fun z => .goto z) 78 77 := ⟨4, by decide +kernel, by decide, rfl⟩
theorem d_X10_record_77 : pm_P e_X10_record 77 0 78 := Or.inl ⟨0, by decide +kernel, by decide +kernel, rfl⟩
theorem d_X10_record_78 : pm_D e_X10_record 78 1 (.iastore) 79 := ⟨by decide +kernel, rfl⟩
theorem d_X10_record_79 : pm_I e_X10_record 79 6 1 82 := ⟨1, by decide +kernel, by decide +kernel, rfl⟩
theorem d_X10_record_82 : pm_B e_X10_record 82 (fun z => .goto z) 44 85 := ⟨-38, by decide +kernel, by decide, rfl⟩
theorem d_X10_record_85 : pm_i e_X10_record 85 .iload_n .iload 5 87 := Or.inr ⟨by decide +kernel, rfl⟩
theorem d_X10_record_87 : pm_D e_X10_record 87 1 (.ireturn) 88 := ⟨by decide +kernel, rfl⟩
theorem d_X10_counts_0 : pm_P e_X10_counts 0 0 1 := Or.inl ⟨0, by decide +kernel, by decide +kernel, rfl⟩
theorem d_X10_counts_1 : pm_i e_X10_counts 1 .istore_n .istore 2 2 := Or.inl ⟨2, by decide +kernel, rfl, rfl⟩
theorem d_X10_counts_2 : pm_i e_X10_counts 2 .iload_n .iload 2 3 := Or.inl ⟨2, by decide +kernel, rfl, rfl⟩
theorem d_X10_counts_3 : pm_P e_X10_counts 3 31 5 := Or.inr <| Or.inl ⟨31, by decide +kernel, by decide +kernel, rfl⟩
theorem d_X10_counts_5 : pm_B e_X10_counts 5 (fun z => .if_icmp .ge z) 21 8 := ⟨16, by decide +kernel, by decide, rfl⟩
theorem d_X10_counts_8 : pm_i e_X10_counts 8 .aload_n .aload 0 9 := Or.inl ⟨0, by decide +kernel, rfl, rfl⟩
theorem d_X10_counts_9 : pm_F e_X10_counts 9 .getfield (RX10, "times", "[I") 12 := ⟨80, by decide +kernel, rfl, Or.inl wm_765⟩
theorem d_X10_counts_12 : pm_i e_X10_counts 12 .iload_n .iload 2 13 := Or.inl ⟨2, by decide +kernel, rfl, rfl⟩
theorem d_X10_counts_13 : pm_P e_X10_counts 13 0 14 := Or.inl ⟨0, by decide +kernel, by decide +kernel, rfl⟩
theorem d_X10_counts_14 : pm_D e_X10_counts 14 1 (.iastore) 15 := ⟨by decide +kernel, rfl⟩
theorem d_X10_counts_15 : pm_I e_X10_counts 15 2 1 18 := ⟨1, by decide +kernel, by decide +kernel, rfl⟩
theorem d_X10_counts_18 : pm_B e_X10_counts 18 (fun z => .goto z) 2 21 := ⟨-16, by decide +kernel, by decide, rfl⟩
theorem d_X10_counts_21 : pm_i e_X10_counts 21 .aload_n .aload 0 22 := Or.inl ⟨0, by decide +kernel, rfl, rfl⟩
theorem d_X10_counts_22 : pm_P e_X10_counts 22 0 23 := Or.inl ⟨0, by decide +kernel, by decide +kernel, rfl⟩
theorem d_X10_counts_23 : pm_F e_X10_counts 23 .putfield (RX10, "counted", "I") 26 := ⟨219, by decide +kernel, rfl, Or.inl wm_766⟩
theorem d_X10_counts_26 : pm_P e_X10_counts 26 0 27 := Or.inl ⟨0, by decide +kernel, by decide +kernel, rfl⟩
theorem d_X10_counts_27 : pm_i e_X10_counts 27 .istore_n .istore 2 28 := Or.inl ⟨2, by decide +kernel, rfl, rfl⟩
theorem d_X10_counts_28 : pm_i e_X10_counts 28 .iload_n .iload 2 29 := Or.inl ⟨2, by decide +kernel, rfl, rfl⟩
theorem d_X10_counts_29 : pm_i e_X10_counts 29 .aload_n .aload 0 30 := Or.inl ⟨0, by decide +kernel, rfl, rfl⟩
theorem d_X10_counts_30 : pm_F e_X10_counts 30 .getfield (RX10, "sizes", "[I") 33 := ⟨71, by decide +kernel, rfl, Or.inl wm_762⟩
theorem d_X10_counts_33 : pm_i e_X10_counts 33 .iload_n .iload 1 34 := Or.inl ⟨1, by decide +kernel, rfl, rfl⟩
theorem d_X10_counts_34 : pm_D e_X10_counts 34 1 (.iaload) 35 := ⟨by decide +kernel, rfl⟩
theorem d_X10_counts_35 : pm_B e_X10_counts 35 (fun z => .if_icmp .ge z) 81 38 := ⟨46, by decide +kernel, by decide, rfl⟩
theorem d_X10_counts_38 : pm_i e_X10_counts 38 .aload_n .aload 0 39 := Or.inl ⟨0, by decide +kernel, rfl, rfl⟩
theorem d_X10_counts_39 : pm_i e_X10_counts 39 .iload_n .iload 1 40 := Or.inl ⟨1, by decide +kernel, rfl, rfl⟩
theorem d_X10_counts_40 : pm_i e_X10_counts 40 .iload_n .iload 2 41 := Or.inl ⟨2, by decide +kernel, rfl, rfl⟩
theorem d_X10_counts_41 : pm_kV e_X10_counts 41 e_X10_leaf RX10 2 44 := ⟨204, by decide +kernel, rfl, fit_X10_counts_X10_leaf, wm_1030, Or.inl ⟨wm_1028, wm_37⟩⟩
theorem d_X10_counts_44 : pm_i e_X10_counts 44 .istore_n .istore 3 45 := Or.inl ⟨3, by decide +kernel, rfl, rfl⟩
theorem d_X10_counts_45 : pm_i e_X10_counts 45 .iload_n .iload 3 46 := Or.inl ⟨3, by decide +kernel, rfl, rfl⟩
theorem d_X10_counts_46 : pm_P e_X10_counts 46 0 47 := Or.inl ⟨0, by decide +kernel, by decide +kernel, rfl⟩
theorem d_X10_counts_47 : pm_P e_X10_counts 47 30 49 := Or.inr <| Or.inl ⟨30, by decide +kernel, by decide +kernel, rfl⟩
theorem d_X10_counts_49 : pm_kS e_X10_counts 49 e_X10_in 3 52 := ⟨106, by decide +kernel, rfl, fit_X10_counts_X10_in, wm_853, Or.inl wm_852⟩
theorem d_X10_counts_52 : pm_B e_X10_counts 52 (fun z => .ifCond .eq z) 75 55 := ⟨23, by decide +kernel, by decide, rfl⟩
theorem d_X10_counts_55 : pm_i e_X10_counts 55 .aload_n .aload 0 56 := Or.inl ⟨0, by decide +kernel, rfl, rfl⟩
theorem d_X10_counts_56 : pm_F e_X10_counts 56 .getfield (RX10, "times", "[I") 59 := ⟨80, by decide +kernel, rfl, Or.inl wm_765⟩
theorem d_X10_counts_59 : pm_i e_X10_counts 59 .iload_n .iload 3 60 := Or.inl ⟨3, by decide +kernel, rfl, rfl⟩
theorem d_X10_counts_60 : pm_D e_X10_counts 60 1 (.dup2) 61 := ⟨by decide +kernel, rfl⟩
theorem d_X10_counts_61 : pm_D e_X10_counts 61 1 (.iaload) 62 := ⟨by decide +kernel, rfl⟩
theorem d_X10_counts_62 : pm_P e_X10_counts 62 1 63 := Or.inl ⟨1, by decide +kernel, by decide +kernel, rfl⟩
theorem d_X10_counts_63 : pm_D e_X10_counts 63 1 (.iadd) 64 := ⟨by decide +kernel, rfl⟩
theorem d_X10_counts_64 : pm_D e_X10_counts 64 1 (.iastore) 65 := ⟨by decide +kernel, rfl⟩
theorem d_X10_counts_65 : pm_i e_X10_counts 65 .aload_n .aload 0 66 := Or.inl ⟨0, by decide +kernel, rfl, rfl⟩
theorem d_X10_counts_66 : pm_D e_X10_counts 66 1 (.dup) 67 := ⟨by decide +kernel, rfl⟩
theorem d_X10_counts_67 : pm_F e_X10_counts 67 .getfield (RX10, "counted", "I") 70 := ⟨219, by decide +kernel, rfl, Or.inl wm_766⟩
theorem d_X10_counts_70 : pm_P e_X10_counts 70 1 71 := Or.inl ⟨1, by decide +kernel, by decide +kernel, rfl⟩
theorem d_X10_counts_71 : pm_D e_X10_counts 71 1 (.iadd) 72 := ⟨by decide +kernel, rfl⟩
theorem d_X10_counts_72 : pm_F e_X10_counts 72 .putfield (RX10, "counted", "I") 75 := ⟨219, by decide +kernel, rfl, Or.inl wm_766⟩
theorem d_X10_counts_75 : pm_I e_X10_counts 75 2 1 78 := ⟨1, by decide +kernel, by decide +kernel, rfl⟩
theorem d_X10_counts_78 : pm_B e_X10_counts 78 (fun z => .goto z) 28 81 := ⟨-50, by decide +kernel, by decide, rfl⟩
theorem d_X10_counts_81 : pm_i e_X10_counts 81 .aload_n .aload 0 82 := Or.inl ⟨0, by decide +kernel, rfl, rfl⟩
theorem d_X10_counts_82 : pm_F e_X10_counts 82 .getfield (RX10, "counted", "I") 85 := ⟨219, by decide +kernel, rfl, Or.inl wm_766⟩
theorem d_X10_counts_85 : pm_B e_X10_counts 85 (fun z => .ifCond .le z) 92 88 := ⟨7, by decide +kernel, by decide, rfl⟩
theorem d_X10_counts_88 : pm_P e_X10_counts 88 1 89 := Or.inl ⟨1, by decide +kernel, by decide +kernel, rfl⟩
theorem d_X10_counts_89 : pm_B e_X10_counts 89 (fun z => .goto z) 93 92 := ⟨4, by decide +kernel, by decide, rfl⟩
theorem d_X10_counts_92 : pm_P e_X10_counts 92 0 93 := Or.inl ⟨0, by decide +kernel, by decide +kernel, rfl⟩
theorem d_X10_counts_93 : pm_D e_X10_counts 93 1 (.ireturn) 94 := ⟨by decide +kernel, rfl⟩
theorem d_X10_setShares_0 : pm_i e_X10_setShares 0 .aload_n .aload 0 1 := Or.inl ⟨0, by decide +kernel, rfl, rfl⟩
theorem d_X10_setShares_1 : pm_i e_X10_setShares 1 .iload_n .iload 1 2 := Or.inl ⟨1, by decide +kernel, rfl, rfl⟩
theorem d_X10_setShares_2 : pm_kV e_X10_setShares 2 e_X10_setOdds RX10 1 5 := ⟨163, by decide +kernel, rfl, fit_X10_setShares_X10_setOdds, wm_912, Or.inl ⟨wm_910, wm_27⟩⟩
theorem d_X10_setShares_5 : pm_P e_X10_setShares 5 0 6 := Or.inl ⟨0, by decide +kernel, by decide +kernel, rfl⟩
theorem d_X10_setShares_6 : pm_i e_X10_setShares 6 .istore_n .istore 2 7 := Or.inl ⟨2, by decide +kernel, rfl, rfl⟩
theorem d_X10_setShares_7 : pm_i e_X10_setShares 7 .iload_n .iload 2 8 := Or.inl ⟨2, by decide +kernel, rfl, rfl⟩
theorem d_X10_setShares_8 : pm_P e_X10_setShares 8 31 10 := Or.inr <| Or.inl ⟨31, by decide +kernel, by decide +kernel, rfl⟩
theorem d_X10_setShares_10 : pm_B e_X10_setShares 10 (fun z => .if_icmp .ge z) 102 13 := ⟨92, by decide +kernel, by decide, rfl⟩
theorem d_X10_setShares_13 : pm_i e_X10_setShares 13 .aload_n .aload 0 14 := Or.inl ⟨0, by decide +kernel, rfl, rfl⟩
theorem d_X10_setShares_14 : pm_F e_X10_setShares 14 .getfield (RX10, "oddsUp", "[J") 17 := ⟨49, by decide +kernel, rfl, Or.inl wm_752⟩
theorem d_X10_setShares_17 : pm_i e_X10_setShares 17 .iload_n .iload 2 18 := Or.inl ⟨2, by decide +kernel, rfl, rfl⟩
theorem d_X10_setShares_18 : pm_D e_X10_setShares 18 1 (.laload) 19 := ⟨by decide +kernel, rfl⟩
theorem d_X10_setShares_19 : pm_i e_X10_setShares 19 .lstore_n .lstore 3 20 := Or.inl ⟨3, by decide +kernel, rfl, rfl⟩
theorem d_X10_setShares_20 : pm_i e_X10_setShares 20 .lload_n .lload 3 21 := Or.inl ⟨3, by decide +kernel, rfl, rfl⟩
theorem d_X10_setShares_21 : pm_i e_X10_setShares 21 .aload_n .aload 0 22 := Or.inl ⟨0, by decide +kernel, rfl, rfl⟩
theorem d_X10_setShares_22 : pm_F e_X10_setShares 22 .getfield (RX10, "oddsLow", "[J") 25 := ⟨52, by decide +kernel, rfl, Or.inl wm_753⟩
theorem d_X10_setShares_25 : pm_i e_X10_setShares 25 .iload_n .iload 2 26 := Or.inl ⟨2, by decide +kernel, rfl, rfl⟩
theorem d_X10_setShares_26 : pm_D e_X10_setShares 26 1 (.laload) 27 := ⟨by decide +kernel, rfl⟩
theorem d_X10_setShares_27 : pm_D e_X10_setShares 27 1 (.ldiv) 28 := ⟨by decide +kernel, rfl⟩
theorem d_X10_setShares_28 : pm_D e_X10_setShares 28 1 (.l2i) 29 := ⟨by decide +kernel, rfl⟩
theorem d_X10_setShares_29 : pm_i e_X10_setShares 29 .istore_n .istore 5 31 := Or.inr ⟨by decide +kernel, rfl⟩
theorem d_X10_setShares_31 : pm_i e_X10_setShares 31 .lload_n .lload 3 32 := Or.inl ⟨3, by decide +kernel, rfl, rfl⟩
theorem d_X10_setShares_32 : pm_i e_X10_setShares 32 .aload_n .aload 0 33 := Or.inl ⟨0, by decide +kernel, rfl, rfl⟩
theorem d_X10_setShares_33 : pm_F e_X10_setShares 33 .getfield (RX10, "oddsLow", "[J") 36 := ⟨52, by decide +kernel, rfl, Or.inl wm_753⟩
theorem d_X10_setShares_36 : pm_i e_X10_setShares 36 .iload_n .iload 2 37 := Or.inl ⟨2, by decide +kernel, rfl, rfl⟩
theorem d_X10_setShares_37 : pm_D e_X10_setShares 37 1 (.laload) 38 := ⟨by decide +kernel, rfl⟩
theorem d_X10_setShares_38 : pm_D e_X10_setShares 38 1 (.lrem) 39 := ⟨by decide +kernel, rfl⟩
theorem d_X10_setShares_39 : pm_i e_X10_setShares 39 .lstore_n .lstore 3 40 := Or.inl ⟨3, by decide +kernel, rfl, rfl⟩
theorem d_X10_setShares_40 : pm_P e_X10_setShares 40 0 41 := Or.inl ⟨0, by decide +kernel, by decide +kernel, rfl⟩
theorem d_X10_setShares_41 : pm_i e_X10_setShares 41 .istore_n .istore 6 43 := Or.inr ⟨by decide +kernel, rfl⟩
theorem d_X10_setShares_43 : pm_i e_X10_setShares 43 .iload_n .iload 6 45 := Or.inr ⟨by decide +kernel, rfl⟩
theorem d_X10_setShares_45 : pm_P e_X10_setShares 45 6 47 := Or.inr <| Or.inl ⟨6, by decide +kernel, by decide +kernel, rfl⟩
theorem d_X10_setShares_47 : pm_B e_X10_setShares 47 (fun z => .if_icmp .ge z) 88 50 := ⟨41, by decide +kernel, by decide, rfl⟩
theorem d_X10_setShares_50 : pm_i e_X10_setShares 50 .lload_n .lload 3 51 := Or.inl ⟨3, by decide +kernel, rfl, rfl⟩
theorem d_X10_setShares_51 : pm_PL e_X10_setShares 51 10 54 := Or.inr ⟨222, by decide +kernel, wm_1069, rfl⟩
theorem d_X10_setShares_54 : pm_D e_X10_setShares 54 1 (.lmul) 55 := ⟨by decide +kernel, rfl⟩
theorem d_X10_setShares_55 : pm_i e_X10_setShares 55 .lstore_n .lstore 3 56 := Or.inl ⟨3, by decide +kernel, rfl, rfl⟩
theorem d_X10_setShares_56 : pm_P e_X10_setShares 56 10 58 := Or.inr <| Or.inl ⟨10, by decide +kernel, by decide +kernel, rfl⟩
theorem d_X10_setShares_58 : pm_i e_X10_setShares 58 .iload_n .iload 5 60 := Or.inr ⟨by decide +kernel, rfl⟩
theorem d_X10_setShares_60 : pm_D e_X10_setShares 60 1 (.imul) 61 := ⟨by decide +kernel, rfl⟩
theorem d_X10_setShares_61 : pm_i e_X10_setShares 61 .lload_n .lload 3 62 := Or.inl ⟨3, by decide +kernel, rfl, rfl⟩
theorem d_X10_setShares_62 : pm_i e_X10_setShares 62 .aload_n .aload 0 63 := Or.inl ⟨0, by decide +kernel, rfl, rfl⟩
theorem d_X10_setShares_63 : pm_F e_X10_setShares 63 .getfield (RX10, "oddsLow", "[J") 66 := ⟨52, by decide +kernel, rfl, Or.inl wm_753⟩
theorem d_X10_setShares_66 : pm_i e_X10_setShares 66 .iload_n .iload 2 67 := Or.inl ⟨2, by decide +kernel, rfl, rfl⟩
theorem d_X10_setShares_67 : pm_D e_X10_setShares 67 1 (.laload) 68 := ⟨by decide +kernel, rfl⟩
theorem d_X10_setShares_68 : pm_D e_X10_setShares 68 1 (.ldiv) 69 := ⟨by decide +kernel, rfl⟩
theorem d_X10_setShares_69 : pm_D e_X10_setShares 69 1 (.l2i) 70 := ⟨by decide +kernel, rfl⟩
theorem d_X10_setShares_70 : pm_D e_X10_setShares 70 1 (.iadd) 71 := ⟨by decide +kernel, rfl⟩
theorem d_X10_setShares_71 : pm_i e_X10_setShares 71 .istore_n .istore 5 73 := Or.inr ⟨by decide +kernel, rfl⟩
theorem d_X10_setShares_73 : pm_i e_X10_setShares 73 .lload_n .lload 3 74 := Or.inl ⟨3, by decide +kernel, rfl, rfl⟩
theorem d_X10_setShares_74 : pm_i e_X10_setShares 74 .aload_n .aload 0 75 := Or.inl ⟨0, by decide +kernel, rfl, rfl⟩
theorem d_X10_setShares_75 : pm_F e_X10_setShares 75 .getfield (RX10, "oddsLow", "[J") 78 := ⟨52, by decide +kernel, rfl, Or.inl wm_753⟩
theorem d_X10_setShares_78 : pm_i e_X10_setShares 78 .iload_n .iload 2 79 := Or.inl ⟨2, by decide +kernel, rfl, rfl⟩
theorem d_X10_setShares_79 : pm_D e_X10_setShares 79 1 (.laload) 80 := ⟨by decide +kernel, rfl⟩
theorem d_X10_setShares_80 : pm_D e_X10_setShares 80 1 (.lrem) 81 := ⟨by decide +kernel, rfl⟩
theorem d_X10_setShares_81 : pm_i e_X10_setShares 81 .lstore_n .lstore 3 82 := Or.inl ⟨3, by decide +kernel, rfl, rfl⟩
theorem d_X10_setShares_82 : pm_I e_X10_setShares 82 6 1 85 := ⟨1, by decide +kernel, by decide +kernel, rfl⟩
theorem d_X10_setShares_85 : pm_B e_X10_setShares 85 (fun z => .goto z) 43 88 := ⟨-42, by decide +kernel, by decide, rfl⟩
theorem d_X10_setShares_88 : pm_i e_X10_setShares 88 .aload_n .aload 0 89 := Or.inl ⟨0, by decide +kernel, rfl, rfl⟩
theorem d_X10_setShares_89 : pm_F e_X10_setShares 89 .getfield (RX10, "shares", "[I") 92 := ⟨83, by decide +kernel, rfl, Or.inl wm_767⟩
theorem d_X10_setShares_92 : pm_i e_X10_setShares 92 .iload_n .iload 2 93 := Or.inl ⟨2, by decide +kernel, rfl, rfl⟩
theorem d_X10_setShares_93 : pm_i e_X10_setShares 93 .iload_n .iload 5 95 := Or.inr ⟨by decide +kernel, rfl⟩
theorem d_X10_setShares_95 : pm_D e_X10_setShares 95 1 (.iastore) 96 := ⟨by decide +kernel, rfl⟩
theorem d_X10_setShares_96 : pm_I e_X10_setShares 96 2 1 99 := ⟨1, by decide +kernel, by decide +kernel, rfl⟩
theorem d_X10_setShares_99 : pm_B e_X10_setShares 99 (fun z => .goto z) 7 102 := ⟨-92, by decide +kernel, by decide, rfl⟩
theorem d_X10_setShares_102 : pm_D e_X10_setShares 102 1 (.return_) 103 := ⟨by decide +kernel, rfl⟩
theorem d_X10_offOf_0 : pm_i e_X10_offOf 0 .aload_n .aload 0 1 := Or.inl ⟨0, by decide +kernel, rfl, rfl⟩
theorem d_X10_offOf_1 : pm_i e_X10_offOf 1 .iload_n .iload 1 2 := Or.inl ⟨1, by decide +kernel, rfl, rfl⟩
theorem d_X10_offOf_2 : pm_kV e_X10_offOf 2 e_X10_setShares RX10 1 5 := ⟨224, by decide +kernel, rfl, fit_X10_offOf_X10_setShares, wm_1067, Or.inl ⟨wm_1065, wm_41⟩⟩
theorem d_X10_offOf_5 : pm_P e_X10_offOf 5 0 6 := Or.inl ⟨0, by decide +kernel, by decide +kernel, rfl⟩
theorem d_X10_offOf_6 : pm_i e_X10_offOf 6 .istore_n .istore 2 7 := Or.inl ⟨2, by decide +kernel, rfl, rfl⟩
theorem d_X10_offOf_7 : pm_P e_X10_offOf 7 0 8 := Or.inl ⟨0, by decide +kernel, by decide +kernel, rfl⟩
theorem d_X10_offOf_8 : pm_i e_X10_offOf 8 .istore_n .istore 3 9 := Or.inl ⟨3, by decide +kernel, rfl, rfl⟩
theorem d_X10_offOf_9 : pm_i e_X10_offOf 9 .iload_n .iload 3 10 := Or.inl ⟨3, by decide +kernel, rfl, rfl⟩
theorem d_X10_offOf_10 : pm_P e_X10_offOf 10 31 12 := Or.inr <| Or.inl ⟨31, by decide +kernel, by decide +kernel, rfl⟩
theorem d_X10_offOf_12 : pm_B e_X10_offOf 12 (fun z => .if_icmp .ge z) 60 15 := ⟨48, by decide +kernel, by decide, rfl⟩
theorem d_X10_offOf_15 : pm_i e_X10_offOf 15 .aload_n .aload 0 16 := Or.inl ⟨0, by decide +kernel, rfl, rfl⟩
theorem d_X10_offOf_16 : pm_F e_X10_offOf 16 .getfield (RX10, "shares", "[I") 19 := ⟨83, by decide +kernel, rfl, Or.inl wm_767⟩
theorem d_X10_offOf_19 : pm_i e_X10_offOf 19 .iload_n .iload 3 20 := Or.inl ⟨3, by decide +kernel, rfl, rfl⟩
theorem d_X10_offOf_20 : pm_D e_X10_offOf 20 1 (.iaload) 21 := ⟨by decide +kernel, rfl⟩
theorem d_X10_offOf_21 : pm_P e_X10_offOf 21 1000000 23 := Or.inr <| Or.inr <| Or.inr <| Or.inl ⟨227, by decide +kernel, wm_1070, rfl⟩
theorem d_X10_offOf_23 : pm_i e_X10_offOf 23 .aload_n .aload 0 24 := Or.inl ⟨0, by decide +kernel, rfl, rfl⟩
theorem d_X10_offOf_24 : pm_F e_X10_offOf 24 .getfield (RX10, "times", "[I") 27 := ⟨80, by decide +kernel, rfl, Or.inl wm_765⟩
theorem d_X10_offOf_27 : pm_i e_X10_offOf 27 .iload_n .iload 3 28 := Or.inl ⟨3, by decide +kernel, rfl, rfl⟩
theorem d_X10_offOf_28 : pm_D e_X10_offOf 28 1 (.iaload) 29 := ⟨by decide +kernel, rfl⟩
theorem d_X10_offOf_29 : pm_D e_X10_offOf 29 1 (.imul) 30 := ⟨by decide +kernel, rfl⟩
theorem d_X10_offOf_30 : pm_i e_X10_offOf 30 .aload_n .aload 0 31 := Or.inl ⟨0, by decide +kernel, rfl, rfl⟩
theorem d_X10_offOf_31 : pm_F e_X10_offOf 31 .getfield (RX10, "counted", "I") 34 := ⟨219, by decide +kernel, rfl, Or.inl wm_766⟩
theorem d_X10_offOf_34 : pm_D e_X10_offOf 34 1 (.idiv) 35 := ⟨by decide +kernel, rfl⟩
theorem d_X10_offOf_35 : pm_D e_X10_offOf 35 1 (.isub) 36 := ⟨by decide +kernel, rfl⟩
theorem d_X10_offOf_36 : pm_i e_X10_offOf 36 .istore_n .istore 4 38 := Or.inr ⟨by decide +kernel, rfl⟩
theorem d_X10_offOf_38 : pm_i e_X10_offOf 38 .iload_n .iload 2 39 := Or.inl ⟨2, by decide +kernel, rfl, rfl⟩
theorem d_X10_offOf_39 : pm_i e_X10_offOf 39 .iload_n .iload 4 41 := Or.inr ⟨by decide +kernel, rfl⟩
theorem d_X10_offOf_41 : pm_B e_X10_offOf 41 (fun z => .ifCond .ge z) 50 44 := ⟨9, by decide +kernel, by decide, rfl⟩
theorem d_X10_offOf_44 : pm_i e_X10_offOf 44 .iload_n .iload 4 46 := Or.inr ⟨by decide +kernel, rfl⟩
theorem d_X10_offOf_46 : pm_D e_X10_offOf 46 1 (.ineg) 47 := ⟨by decide +kernel, rfl⟩
theorem d_X10_offOf_47 : pm_B e_X10_offOf 47 (fun z => .goto z) 52 50 := ⟨5, by decide +kernel, by decide, rfl⟩
theorem d_X10_offOf_50 : pm_i e_X10_offOf 50 .iload_n .iload 4 52 := Or.inr ⟨by decide +kernel, rfl⟩
theorem d_X10_offOf_52 : pm_D e_X10_offOf 52 1 (.iadd) 53 := ⟨by decide +kernel, rfl⟩
theorem d_X10_offOf_53 : pm_i e_X10_offOf 53 .istore_n .istore 2 54 := Or.inl ⟨2, by decide +kernel, rfl, rfl⟩
theorem d_X10_offOf_54 : pm_I e_X10_offOf 54 3 1 57 := ⟨1, by decide +kernel, by decide +kernel, rfl⟩
theorem d_X10_offOf_57 : pm_B e_X10_offOf 57 (fun z => .goto z) 9 60 := ⟨-48, by decide +kernel, by decide, rfl⟩
theorem d_X10_offOf_60 : pm_i e_X10_offOf 60 .iload_n .iload 2 61 := Or.inl ⟨2, by decide +kernel, rfl, rfl⟩
theorem d_X10_offOf_61 : pm_D e_X10_offOf 61 1 (.ireturn) 62 := ⟨by decide +kernel, rfl⟩
theorem d_X10_off_0 : pm_i e_X10_off 0 .aload_n .aload 0 1 := Or.inl ⟨0, by decide +kernel, rfl, rfl⟩
theorem d_X10_off_1 : pm_i e_X10_off 1 .iload_n .iload 2 2 := Or.inl ⟨2, by decide +kernel, rfl, rfl⟩
theorem d_X10_off_2 : pm_kV e_X10_off 2 e_X10_isCaster RX10 1 5 := ⟨118, by decide +kernel, rfl, fit_X10_off_X10_isCaster, wm_865, Or.inl ⟨wm_863, wm_20⟩⟩
theorem d_X10_off_5 : pm_B e_X10_off 5 (fun z => .ifCond .ne z) 10 8 := ⟨5, by decide +kernel, by decide, rfl⟩
theorem d_X10_off_8 : pm_P e_X10_off 8 (-1) 9 := Or.inl ⟨-1, by decide +kernel, by decide +kernel, rfl⟩
theorem d_X10_off_9 : pm_D e_X10_off 9 1 (.ireturn) 10 := ⟨by decide +kernel, rfl⟩
theorem d_X10_off_10 : pm_i e_X10_off 10 .aload_n .aload 0 11 := Or.inl ⟨0, by decide +kernel, rfl, rfl⟩
theorem d_X10_off_11 : pm_i e_X10_off 11 .iload_n .iload 1 12 := Or.inl ⟨1, by decide +kernel, rfl, rfl⟩
theorem d_X10_off_12 : pm_kV e_X10_off 12 e_X10_looked RX10 1 15 := ⟨201, by decide +kernel, rfl, fit_X10_off_X10_looked, wm_1010, Or.inl ⟨wm_1008, wm_35⟩⟩
theorem d_X10_off_15 : pm_i e_X10_off 15 .istore_n .istore 3 16 := Or.inl ⟨3, by decide +kernel, rfl, rfl⟩
theorem d_X10_off_16 : pm_i e_X10_off 16 .iload_n .iload 3 17 := Or.inl ⟨3, by decide +kernel, rfl, rfl⟩
theorem d_X10_off_17 : pm_B e_X10_off 17 (fun z => .ifCond .ge z) 22 20 := ⟨5, by decide +kernel, by decide, rfl⟩
theorem d_X10_off_20 : pm_i e_X10_off 20 .iload_n .iload 3 21 := Or.inl ⟨3, by decide +kernel, rfl, rfl⟩
theorem d_X10_off_21 : pm_D e_X10_off 21 1 (.ireturn) 22 := ⟨by decide +kernel, rfl⟩
theorem d_X10_off_22 : pm_i e_X10_off 22 .aload_n .aload 0 23 := Or.inl ⟨0, by decide +kernel, rfl, rfl⟩
theorem d_X10_off_23 : pm_i e_X10_off 23 .iload_n .iload 1 24 := Or.inl ⟨1, by decide +kernel, rfl, rfl⟩
theorem d_X10_off_24 : pm_kV e_X10_off 24 e_X10_counts RX10 1 27 := ⟨228, by decide +kernel, rfl, fit_X10_off_X10_counts, wm_1059, Or.inl ⟨wm_1057, wm_39⟩⟩
theorem d_X10_off_27 : pm_B e_X10_off 27 (fun z => .ifCond .ne z) 36 30 := ⟨9, by decide +kernel, by decide, rfl⟩
theorem d_X10_off_30 : pm_i e_X10_off 30 .aload_n .aload 0 31 := Or.inl ⟨0, by decide +kernel, rfl, rfl⟩
theorem d_X10_off_31 : pm_P e_X10_off 31 4 32 := Or.inl ⟨4, by decide +kernel, by decide +kernel, rfl⟩
theorem d_X10_off_32 : pm_kV e_X10_off 32 e_X10_meets RX10 1 35 := ⟨131, by decide +kernel, rfl, fit_X10_off_X10_meets, wm_881, Or.inl ⟨wm_879, wm_23⟩⟩
theorem d_X10_off_35 : pm_D e_X10_off 35 1 (.ireturn) 36 := ⟨by decide +kernel, rfl⟩
theorem d_X10_off_36 : pm_i e_X10_off 36 .aload_n .aload 0 37 := Or.inl ⟨0, by decide +kernel, rfl, rfl⟩
theorem d_X10_off_37 : pm_i e_X10_off 37 .aload_n .aload 0 38 := Or.inl ⟨0, by decide +kernel, rfl, rfl⟩
theorem d_X10_off_38 : pm_i e_X10_off 38 .iload_n .iload 2 39 := Or.inl ⟨2, by decide +kernel, rfl, rfl⟩
theorem d_X10_off_39 : pm_kV e_X10_off 39 e_X10_offOf RX10 1 42 := ⟨230, by decide +kernel, rfl, fit_X10_off_X10_offOf, wm_1063, Or.inl ⟨wm_1061, wm_40⟩⟩
theorem d_X10_off_42 : pm_D e_X10_off 42 1 (.i2l) 43 := ⟨by decide +kernel, rfl⟩
theorem d_X10_off_43 : pm_F e_X10_off 43 .putfield (RX10, "asked", "J") 46 := ⟨210, by decide +kernel, rfl, Or.inl wm_738⟩
theorem d_X10_off_46 : pm_P e_X10_off 46 1 47 := Or.inl ⟨1, by decide +kernel, by decide +kernel, rfl⟩
theorem d_X10_off_47 : pm_D e_X10_off 47 1 (.ireturn) 48 := ⟨by decide +kernel, rfl⟩
theorem d_X10_nearest_0 : pm_i e_X10_nearest 0 .iload_n .iload 1 1 := Or.inl ⟨1, by decide +kernel, rfl, rfl⟩
theorem d_X10_nearest_1 : pm_kS e_X10_nearest 1 e_X10_isRow 1 4 := ⟨198, by decide +kernel, rfl, fit_X10_nearest_X10_isRow, wm_1002, Or.inl wm_1001⟩
theorem d_X10_nearest_4 : pm_B e_X10_nearest 4 (fun z => .ifCond .ne z) 9 7 := ⟨5, by decide +kernel, by decide, rfl⟩
theorem d_X10_nearest_7 : pm_P e_X10_nearest 7 (-1) 8 := Or.inl ⟨-1, by decide +kernel, by decide +kernel, rfl⟩
theorem d_X10_nearest_8 : pm_D e_X10_nearest 8 1 (.ireturn) 9 := ⟨by decide +kernel, rfl⟩
theorem d_X10_nearest_9 : pm_i e_X10_nearest 9 .aload_n .aload 0 10 := Or.inl ⟨0, by decide +kernel, rfl, rfl⟩
theorem d_X10_nearest_10 : pm_F e_X10_nearest 10 .getfield (RX10, "casters", "I") 13 := ⟨99, by decide +kernel, rfl, Or.inl wm_741⟩
theorem d_X10_nearest_13 : pm_B e_X10_nearest 13 (fun z => .ifCond .ne z) 19 16 := ⟨6, by decide +kernel, by decide, rfl⟩
theorem d_X10_nearest_16 : pm_P e_X10_nearest 16 (-4) 18 := Or.inr <| Or.inl ⟨-4, by decide +kernel, by decide +kernel, rfl⟩
theorem d_X10_nearest_18 : pm_D e_X10_nearest 18 1 (.ireturn) 19 := ⟨by decide +kernel, rfl⟩
theorem d_X10_nearest_19 : pm_i e_X10_nearest 19 .aload_n .aload 0 20 := Or.inl ⟨0, by decide +kernel, rfl, rfl⟩
theorem d_X10_nearest_20 : pm_i e_X10_nearest 20 .iload_n .iload 1 21 := Or.inl ⟨1, by decide +kernel, rfl, rfl⟩
theorem d_X10_nearest_21 : pm_kV e_X10_nearest 21 e_X10_looked RX10 1 24 := ⟨201, by decide +kernel, rfl, fit_X10_nearest_X10_looked, wm_1010, Or.inl ⟨wm_1008, wm_35⟩⟩
theorem d_X10_nearest_24 : pm_i e_X10_nearest 24 .istore_n .istore 2 25 := Or.inl ⟨2, by decide +kernel, rfl, rfl⟩
theorem d_X10_nearest_25 : pm_i e_X10_nearest 25 .iload_n .iload 2 26 := Or.inl ⟨2, by decide +kernel, rfl, rfl⟩
theorem d_X10_nearest_26 : pm_B e_X10_nearest 26 (fun z => .ifCond .ge z) 31 29 := ⟨5, by decide +kernel, by decide, rfl⟩
theorem d_X10_nearest_29 : pm_i e_X10_nearest 29 .iload_n .iload 2 30 := Or.inl ⟨2, by decide +kernel, rfl, rfl⟩
theorem d_X10_nearest_30 : pm_D e_X10_nearest 30 1 (.ireturn) 31 := ⟨by decide +kernel, rfl⟩
theorem d_X10_nearest_31 : pm_i e_X10_nearest 31 .aload_n .aload 0 32 := Or.inl ⟨0, by decide +kernel, rfl, rfl⟩
theorem d_X10_nearest_32 : pm_i e_X10_nearest 32 .iload_n .iload 1 33 := Or.inl ⟨1, by decide +kernel, rfl, rfl⟩
theorem d_X10_nearest_33 : pm_kV e_X10_nearest 33 e_X10_counts RX10 1 36 := ⟨228, by decide +kernel, rfl, fit_X10_nearest_X10_counts, wm_1059, Or.inl ⟨wm_1057, wm_39⟩⟩
theorem d_X10_nearest_36 : pm_B e_X10_nearest 36 (fun z => .ifCond .ne z) 45 39 := ⟨9, by decide +kernel, by decide, rfl⟩
theorem d_X10_nearest_39 : pm_i e_X10_nearest 39 .aload_n .aload 0 40 := Or.inl ⟨0, by decide +kernel, rfl, rfl⟩
theorem d_X10_nearest_40 : pm_P e_X10_nearest 40 4 41 := Or.inl ⟨4, by decide +kernel, by decide +kernel, rfl⟩
theorem d_X10_nearest_41 : pm_kV e_X10_nearest 41 e_X10_meets RX10 1 44 := ⟨131, by decide +kernel, rfl, fit_X10_nearest_X10_meets, wm_881, Or.inl ⟨wm_879, wm_23⟩⟩
theorem d_X10_nearest_44 : pm_D e_X10_nearest 44 1 (.ireturn) 45 := ⟨by decide +kernel, rfl⟩
theorem d_X10_nearest_45 : pm_P e_X10_nearest 45 0 46 := Or.inl ⟨0, by decide +kernel, by decide +kernel, rfl⟩
theorem d_X10_nearest_46 : pm_i e_X10_nearest 46 .istore_n .istore 3 47 := Or.inl ⟨3, by decide +kernel, rfl, rfl⟩
theorem d_X10_nearest_47 : pm_i e_X10_nearest 47 .aload_n .aload 0 48 := Or.inl ⟨0, by decide +kernel, rfl, rfl⟩
theorem d_X10_nearest_48 : pm_P e_X10_nearest 48 0 49 := Or.inl ⟨0, by decide +kernel, by decide +kernel, rfl⟩
theorem d_X10_nearest_49 : pm_kV e_X10_nearest 49 e_X10_offOf RX10 1 52 := ⟨230, by decide +kernel, rfl, fit_X10_nearest_X10_offOf, wm_1063, Or.inl ⟨wm_1061, wm_40⟩⟩
theorem d_X10_nearest_52 : pm_i e_X10_nearest 52 .istore_n .istore 4 54 := Or.inr ⟨by decide +kernel, rfl⟩
theorem d_X10_nearest_54 : pm_P e_X10_nearest 54 1 55 := Or.inl ⟨1, by decide +kernel, by decide +kernel, rfl⟩
theorem d_X10_nearest_55 : pm_i e_X10_nearest 55 .istore_n .istore 5 57 := Or.inr ⟨by decide +kernel, rfl⟩
theorem d_X10_nearest_57 : pm_i e_X10_nearest 57 .iload_n .iload 5 59 := Or.inr ⟨by decide +kernel, rfl⟩
theorem d_X10_nearest_59 : pm_i e_X10_nearest 59 .aload_n .aload 0 60 := Or.inl ⟨0, by decide +kernel, rfl, rfl⟩
theorem d_X10_nearest_60 : pm_F e_X10_nearest 60 .getfield (RX10, "casters", "I") 63 := ⟨99, by decide +kernel, rfl, Or.inl wm_741⟩
theorem d_X10_nearest_63 : pm_B e_X10_nearest 63 (fun z => .if_icmp .ge z) 110 66 := ⟨47, by decide +kernel, by decide, rfl⟩
theorem d_X10_nearest_66 : pm_i e_X10_nearest 66 .aload_n .aload 0 67 := Or.inl ⟨0, by decide +kernel, rfl, rfl⟩
theorem d_X10_nearest_67 : pm_i e_X10_nearest 67 .iload_n .iload 5 69 := Or.inr ⟨by decide +kernel, rfl⟩
theorem d_X10_nearest_69 : pm_kV e_X10_nearest 69 e_X10_offOf RX10 1 72 := ⟨230, by decide +kernel, rfl, fit_X10_nearest_X10_offOf, wm_1063, Or.inl ⟨wm_1061, wm_40⟩⟩
theorem d_X10_nearest_72 : pm_i e_X10_nearest 72 .istore_n .istore 6 74 := Or.inr ⟨by decide +kernel, rfl⟩
theorem d_X10_nearest_74 : pm_i e_X10_nearest 74 .iload_n .iload 6 76 := Or.inr ⟨by decide +kernel, rfl⟩
theorem d_X10_nearest_76 : pm_i e_X10_nearest 76 .iload_n .iload 4 78 := Or.inr ⟨by decide +kernel, rfl⟩
theorem d_X10_nearest_78 : pm_B e_X10_nearest 78 (fun z => .if_icmp .ge z) 86 81 := ⟨8, by decide +kernel, by decide, rfl⟩
theorem d_X10_nearest_81 : pm_i e_X10_nearest 81 .iload_n .iload 5 83 := Or.inr ⟨by decide +kernel, rfl⟩
theorem d_X10_nearest_83 : pm_B e_X10_nearest 83 (fun z => .goto z) 87 86 := ⟨4, by decide +kernel, by decide, rfl⟩
theorem d_X10_nearest_86 : pm_i e_X10_nearest 86 .iload_n .iload 3 87 := Or.inl ⟨3, by decide +kernel, rfl, rfl⟩
theorem d_X10_nearest_87 : pm_i e_X10_nearest 87 .istore_n .istore 3 88 := Or.inl ⟨3, by decide +kernel, rfl, rfl⟩
theorem d_X10_nearest_88 : pm_i e_X10_nearest 88 .iload_n .iload 6 90 := Or.inr ⟨by decide +kernel, rfl⟩
theorem d_X10_nearest_90 : pm_i e_X10_nearest 90 .iload_n .iload 4 92 := Or.inr ⟨by decide +kernel, rfl⟩
theorem d_X10_nearest_92 : pm_B e_X10_nearest 92 (fun z => .if_icmp .ge z) 100 95 := ⟨8, by decide +kernel, by decide, rfl⟩
theorem d_X10_nearest_95 : pm_i e_X10_nearest 95 .iload_n .iload 6 97 := Or.inr ⟨by decide +kernel, rfl⟩
theorem d_X10_nearest_97 : pm_B e_X10_nearest 97 (fun z => .goto z) 102 100 := ⟨5, by decide +kernel, by decide, rfl⟩
theorem d_X10_nearest_100 : pm_i e_X10_nearest 100 .iload_n .iload 4 102 := Or.inr ⟨by decide +kernel, rfl⟩
theorem d_X10_nearest_102 : pm_i e_X10_nearest 102 .istore_n .istore 4 104 := Or.inr ⟨by decide +kernel, rfl⟩
theorem d_X10_nearest_104 : pm_I e_X10_nearest 104 5 1 107 := ⟨1, by decide +kernel, by decide +kernel, rfl⟩
theorem d_X10_nearest_107 : pm_B e_X10_nearest 107 (fun z => .goto z) 57 110 := ⟨-50, by decide +kernel, by decide, rfl⟩
theorem d_X10_nearest_110 : pm_i e_X10_nearest 110 .iload_n .iload 3 111 := Or.inl ⟨3, by decide +kernel, rfl, rfl⟩
theorem d_X10_nearest_111 : pm_D e_X10_nearest 111 1 (.ireturn) 112 := ⟨by decide +kernel, rfl⟩
theorem d_X10_lost_0 : pm_i e_X10_lost 0 .aload_n .aload 0 1 := Or.inl ⟨0, by decide +kernel, rfl, rfl⟩
theorem d_X10_lost_1 : pm_i e_X10_lost 1 .iload_n .iload 2 2 := Or.inl ⟨2, by decide +kernel, rfl, rfl⟩
theorem d_X10_lost_2 : pm_kV e_X10_lost 2 e_X10_isCaster RX10 1 5 := ⟨118, by decide +kernel, rfl, fit_X10_lost_X10_isCaster, wm_865, Or.inl ⟨wm_863, wm_20⟩⟩
theorem d_X10_lost_5 : pm_B e_X10_lost 5 (fun z => .ifCond .ne z) 10 8 := ⟨5, by decide +kernel, by decide, rfl⟩
theorem d_X10_lost_8 : pm_P e_X10_lost 8 (-1) 9 := Or.inl ⟨-1, by decide +kernel, by decide +kernel, rfl⟩
theorem d_X10_lost_9 : pm_D e_X10_lost 9 1 (.ireturn) 10 := ⟨by decide +kernel, rfl⟩
theorem d_X10_lost_10 : pm_i e_X10_lost 10 .aload_n .aload 0 11 := Or.inl ⟨0, by decide +kernel, rfl, rfl⟩
theorem d_X10_lost_11 : pm_i e_X10_lost 11 .iload_n .iload 1 12 := Or.inl ⟨1, by decide +kernel, rfl, rfl⟩
theorem d_X10_lost_12 : pm_kV e_X10_lost 12 e_X10_looked RX10 1 15 := ⟨201, by decide +kernel, rfl, fit_X10_lost_X10_looked, wm_1010, Or.inl ⟨wm_1008, wm_35⟩⟩
theorem d_X10_lost_15 : pm_i e_X10_lost 15 .istore_n .istore 3 16 := Or.inl ⟨3, by decide +kernel, rfl, rfl⟩
theorem d_X10_lost_16 : pm_i e_X10_lost 16 .iload_n .iload 3 17 := Or.inl ⟨3, by decide +kernel, rfl, rfl⟩
theorem d_X10_lost_17 : pm_B e_X10_lost 17 (fun z => .ifCond .ge z) 22 20 := ⟨5, by decide +kernel, by decide, rfl⟩
theorem d_X10_lost_20 : pm_i e_X10_lost 20 .iload_n .iload 3 21 := Or.inl ⟨3, by decide +kernel, rfl, rfl⟩
theorem d_X10_lost_21 : pm_D e_X10_lost 21 1 (.ireturn) 22 := ⟨by decide +kernel, rfl⟩
theorem d_X10_lost_22 : pm_i e_X10_lost 22 .aload_n .aload 0 23 := Or.inl ⟨0, by decide +kernel, rfl, rfl⟩
theorem d_X10_lost_23 : pm_i e_X10_lost 23 .iload_n .iload 2 24 := Or.inl ⟨2, by decide +kernel, rfl, rfl⟩
theorem d_X10_lost_24 : pm_kV e_X10_lost 24 e_X10_parts RX10 1 27 := ⟨114, by decide +kernel, rfl, fit_X10_lost_X10_parts, wm_873, Or.inl ⟨wm_871, wm_22⟩⟩
theorem d_X10_lost_27 : pm_B e_X10_lost 27 (fun z => .ifCond .ne z) 36 30 := ⟨9, by decide +kernel, by decide, rfl⟩
theorem d_X10_lost_30 : pm_i e_X10_lost 30 .aload_n .aload 0 31 := Or.inl ⟨0, by decide +kernel, rfl, rfl⟩
theorem d_X10_lost_31 : pm_P e_X10_lost 31 3 32 := Or.inl ⟨3, by decide +kernel, by decide +kernel, rfl⟩
theorem d_X10_lost_32 : pm_kV e_X10_lost 32 e_X10_meets RX10 1 35 := ⟨131, by decide +kernel, rfl, fit_X10_lost_X10_meets, wm_881, Or.inl ⟨wm_879, wm_23⟩⟩
theorem d_X10_lost_35 : pm_D e_X10_lost 35 1 (.ireturn) 36 := ⟨by decide +kernel, rfl⟩
theorem d_X10_lost_36 : pm_i e_X10_lost 36 .aload_n .aload 0 37 := Or.inl ⟨0, by decide +kernel, rfl, rfl⟩
theorem d_X10_lost_37 : pm_i e_X10_lost 37 .iload_n .iload 1 38 := Or.inl ⟨1, by decide +kernel, rfl, rfl⟩
theorem d_X10_lost_38 : pm_kV e_X10_lost 38 e_X10_counts RX10 1 41 := ⟨228, by decide +kernel, rfl, fit_X10_lost_X10_counts, wm_1059, Or.inl ⟨wm_1057, wm_39⟩⟩
theorem d_X10_lost_41 : pm_B e_X10_lost 41 (fun z => .ifCond .ne z) 50 44 := ⟨9, by decide +kernel, by decide, rfl⟩
theorem d_X10_lost_44 : pm_i e_X10_lost 44 .aload_n .aload 0 45 := Or.inl ⟨0, by decide +kernel, rfl, rfl⟩
theorem d_X10_lost_45 : pm_P e_X10_lost 45 4 46 := Or.inl ⟨4, by decide +kernel, by decide +kernel, rfl⟩
theorem d_X10_lost_46 : pm_kV e_X10_lost 46 e_X10_meets RX10 1 49 := ⟨131, by decide +kernel, rfl, fit_X10_lost_X10_meets, wm_881, Or.inl ⟨wm_879, wm_23⟩⟩
theorem d_X10_lost_49 : pm_D e_X10_lost 49 1 (.ireturn) 50 := ⟨by decide +kernel, rfl⟩
theorem d_X10_lost_50 : pm_i e_X10_lost 50 .aload_n .aload 0 51 := Or.inl ⟨0, by decide +kernel, rfl, rfl⟩
theorem d_X10_lost_51 : pm_F e_X10_lost 51 .getfield (RX10, "sticks", "[I") 54 := ⟨20, by decide +kernel, rfl, Or.inl wm_743⟩
theorem d_X10_lost_54 : pm_i e_X10_lost 54 .iload_n .iload 2 55 := Or.inl ⟨2, by decide +kernel, rfl, rfl⟩
theorem d_X10_lost_55 : pm_D e_X10_lost 55 1 (.iaload) 56 := ⟨by decide +kernel, rfl⟩
theorem d_X10_lost_56 : pm_i e_X10_lost 56 .istore_n .istore 4 58 := Or.inr ⟨by decide +kernel, rfl⟩
theorem d_X10_lost_58 : pm_P e_X10_lost 58 0 59 := Or.inl ⟨0, by decide +kernel, by decide +kernel, rfl⟩
theorem d_X10_lost_59 : pm_i e_X10_lost 59 .istore_n .istore 5 61 := Or.inr ⟨by decide +kernel, rfl⟩
theorem d_X10_lost_61 : pm_i e_X10_lost 61 .aload_n .aload 0 62 := Or.inl ⟨0, by decide +kernel, rfl, rfl⟩
theorem d_X10_lost_62 : pm_i e_X10_lost 62 .iload_n .iload 2 63 := Or.inl ⟨2, by decide +kernel, rfl, rfl⟩
theorem d_X10_lost_63 : pm_kV e_X10_lost 63 e_X10_offOf RX10 1 66 := ⟨230, by decide +kernel, rfl, fit_X10_lost_X10_offOf, wm_1063, Or.inl ⟨wm_1061, wm_40⟩⟩
theorem d_X10_lost_66 : pm_i e_X10_lost 66 .istore_n .istore 6 68 := Or.inr ⟨by decide +kernel, rfl⟩
theorem d_X10_lost_68 : pm_P e_X10_lost 68 1 69 := Or.inl ⟨1, by decide +kernel, by decide +kernel, rfl⟩
theorem d_X10_lost_69 : pm_i e_X10_lost 69 .istore_n .istore 7 71 := Or.inr ⟨by decide +kernel, rfl⟩
theorem d_X10_lost_71 : pm_i e_X10_lost 71 .iload_n .iload 7 73 := Or.inr ⟨by decide +kernel, rfl⟩
theorem d_X10_lost_73 : pm_P e_X10_lost 73 9 75 := Or.inr <| Or.inl ⟨9, by decide +kernel, by decide +kernel, rfl⟩
theorem d_X10_lost_75 : pm_B e_X10_lost 75 (fun z => .if_icmp .ge z) 143 78 := ⟨68, by decide +kernel, by decide, rfl⟩
theorem d_X10_lost_78 : pm_i e_X10_lost 78 .iload_n .iload 4 80 := Or.inr ⟨by decide +kernel, rfl⟩
theorem d_X10_lost_80 : pm_i e_X10_lost 80 .iload_n .iload 7 82 := Or.inr ⟨by decide +kernel, rfl⟩
theorem d_X10_lost_82 : pm_D e_X10_lost 82 1 (.isub) 83 := ⟨by decide +kernel, rfl⟩
theorem d_X10_lost_83 : pm_P e_X10_lost 83 4 84 := Or.inl ⟨4, by decide +kernel, by decide +kernel, rfl⟩
theorem d_X10_lost_84 : pm_B e_X10_lost 84 (fun z => .if_icmp .lt z) 143 87 := ⟨59, by decide +kernel, by decide, rfl⟩
theorem d_X10_lost_87 : pm_i e_X10_lost 87 .aload_n .aload 0 88 := Or.inl ⟨0, by decide +kernel, rfl, rfl⟩
theorem d_X10_lost_88 : pm_F e_X10_lost 88 .getfield (RX10, "sticks", "[I") 91 := ⟨20, by decide +kernel, rfl, Or.inl wm_743⟩
theorem d_X10_lost_91 : pm_i e_X10_lost 91 .iload_n .iload 2 92 := Or.inl ⟨2, by decide +kernel, rfl, rfl⟩
theorem d_X10_lost_92 : pm_i e_X10_lost 92 .iload_n .iload 4 94 := Or.inr ⟨by decide +kernel, rfl⟩
theorem d_X10_lost_94 : pm_i e_X10_lost 94 .iload_n .iload 7 96 := Or.inr ⟨by decide +kernel, rfl⟩
theorem d_X10_lost_96 : pm_D e_X10_lost 96 1 (.isub) 97 := ⟨by decide +kernel, rfl⟩
theorem d_X10_lost_97 : pm_D e_X10_lost 97 1 (.iastore) 98 := ⟨by decide +kernel, rfl⟩
theorem d_X10_lost_98 : pm_i e_X10_lost 98 .aload_n .aload 0 99 := Or.inl ⟨0, by decide +kernel, rfl, rfl⟩
theorem d_X10_lost_99 : pm_i e_X10_lost 99 .iload_n .iload 2 100 := Or.inl ⟨2, by decide +kernel, rfl, rfl⟩
theorem d_X10_lost_100 : pm_kV e_X10_lost 100 e_X10_offOf RX10 1 103 := ⟨230, by decide +kernel, rfl, fit_X10_lost_X10_offOf, wm_1063, Or.inl ⟨wm_1061, wm_40⟩⟩
theorem d_X10_lost_103 : pm_i e_X10_lost 103 .istore_n .istore 8 105 := Or.inr ⟨by decide +kernel, rfl⟩
theorem d_X10_lost_105 : pm_i e_X10_lost 105 .iload_n .iload 8 107 := Or.inr ⟨by decide +kernel, rfl⟩
theorem d_X10_lost_107 : pm_i e_X10_lost 107 .iload_n .iload 6 109 := Or.inr ⟨by decide +kernel, rfl⟩
theorem d_X10_lost_109 : pm_B e_X10_lost 109 (fun z => .if_icmp .ge z) 117 112 := ⟨8, by decide +kernel, by decide, rfl⟩
theorem d_X10_lost_112 : pm_i e_X10_lost 112 .iload_n .iload 7 114 := Or.inr ⟨by decide +kernel, rfl⟩
theorem d_X10_lost_114 : pm_B e_X10_lost 114 (fun z => .goto z) 119 117 := ⟨5, by decide +kernel, by decide, rfl⟩
theorem d_X10_lost_117 : pm_i e_X10_lost 117 .iload_n .iload 5 119 := Or.inr ⟨by decide +kernel, rfl⟩
theorem d_X10_lost_119 : pm_i e_X10_lost 119 .istore_n .istore 5 121 := Or.inr ⟨by decide +kernel, rfl⟩
theorem d_X10_lost_121 : pm_i e_X10_lost 121 .iload_n .iload 8 123 := Or.inr ⟨by decide +kernel, rfl⟩
theorem d_X10_lost_123 : pm_i e_X10_lost 123 .iload_n .iload 6 125 := Or.inr ⟨by decide +kernel, rfl⟩
theorem d_X10_lost_125 : pm_B e_X10_lost 125 (fun z => .if_icmp .ge z) 133 128 := ⟨8, by decide +kernel, by decide, rfl⟩
theorem d_X10_lost_128 : pm_i e_X10_lost 128 .iload_n .iload 8 130 := Or.inr ⟨by decide +kernel, rfl⟩
theorem d_X10_lost_130 : pm_B e_X10_lost 130 (fun z => .goto z) 135 133 := ⟨5, by decide +kernel, by decide, rfl⟩
theorem d_X10_lost_133 : pm_i e_X10_lost 133 .iload_n .iload 6 135 := Or.inr ⟨by decide +kernel, rfl⟩
theorem d_X10_lost_135 : pm_i e_X10_lost 135 .istore_n .istore 6 137 := Or.inr ⟨by decide +kernel, rfl⟩
theorem d_X10_lost_137 : pm_I e_X10_lost 137 7 1 140 := ⟨1, by decide +kernel, by decide +kernel, rfl⟩
theorem d_X10_lost_140 : pm_B e_X10_lost 140 (fun z => .goto z) 71 143 := ⟨-69, by decide +kernel, by decide, rfl⟩
theorem d_X10_lost_143 : pm_i e_X10_lost 143 .aload_n .aload 0 144 := Or.inl ⟨0, by decide +kernel, rfl, rfl⟩
theorem d_X10_lost_144 : pm_F e_X10_lost 144 .getfield (RX10, "sticks", "[I") 147 := ⟨20, by decide +kernel, rfl, Or.inl wm_743⟩
theorem d_X10_lost_147 : pm_i e_X10_lost 147 .iload_n .iload 2 148 := Or.inl ⟨2, by decide +kernel, rfl, rfl⟩
theorem d_X10_lost_148 : pm_i e_X10_lost 148 .iload_n .iload 4 150 := Or.inr ⟨by decide +kernel, rfl⟩
theorem d_X10_lost_150 : pm_D e_X10_lost 150 1 (.iastore) 151 := ⟨by decide +kernel, rfl⟩
theorem d_X10_lost_151 : pm_i e_X10_lost 151 .iload_n .iload 5 153 := Or.inr ⟨by decide +kernel, rfl⟩
theorem d_X10_lost_153 : pm_D e_X10_lost 153 1 (.ireturn) 154 := ⟨by decide +kernel, rfl⟩
theorem d_X10_need_0 : pm_i e_X10_need 0 .aload_n .aload 0 1 := Or.inl ⟨0, by decide +kernel, rfl, rfl⟩
theorem d_X10_need_1 : pm_i e_X10_need 1 .iload_n .iload 1 2 := Or.inl ⟨1, by decide +kernel, rfl, rfl⟩
theorem d_X10_need_2 : pm_kV e_X10_need 2 e_X10_isCaster RX10 1 5 := ⟨118, by decide +kernel, rfl, fit_X10_need_X10_isCaster, wm_865, Or.inl ⟨wm_863, wm_20⟩⟩
theorem d_X10_need_5 : pm_B e_X10_need 5 (fun z => .ifCond .eq z) 16 8 := ⟨11, by decide +kernel, by decide, rfl⟩
theorem d_X10_need_8 : pm_i e_X10_need 8 .aload_n .aload 0 9 := Or.inl ⟨0, by decide +kernel, rfl, rfl⟩
theorem d_X10_need_9 : pm_i e_X10_need 9 .iload_n .iload 2 10 := Or.inl ⟨2, by decide +kernel, rfl, rfl⟩
theorem d_X10_need_10 : pm_kV e_X10_need 10 e_X10_isCaster RX10 1 13 := ⟨118, by decide +kernel, rfl, fit_X10_need_X10_isCaster, wm_865, Or.inl ⟨wm_863, wm_20⟩⟩
theorem d_X10_need_13 : pm_B e_X10_need 13 (fun z => .ifCond .ne z) 18 16 := ⟨5, by decide +kernel, by decide, rfl⟩
theorem d_X10_need_16 : pm_P e_X10_need 16 (-1) 17 := Or.inl ⟨-1, by decide +kernel, by decide +kernel, rfl⟩
theorem d_X10_need_17 : pm_D e_X10_need 17 1 (.ireturn) 18 := ⟨by decide +kernel, rfl⟩
theorem d_X10_need_18 : pm_i e_X10_need 18 .aload_n .aload 0 19 := Or.inl ⟨0, by decide +kernel, rfl, rfl⟩
theorem d_X10_need_19 : pm_i e_X10_need 19 .iload_n .iload 1 20 := Or.inl ⟨1, by decide +kernel, rfl, rfl⟩
theorem d_X10_need_20 : pm_kV e_X10_need 20 e_X10_setShares RX10 1 23 := ⟨224, by decide +kernel, rfl, fit_X10_need_X10_setShares, wm_1067, Or.inl ⟨wm_1065, wm_41⟩⟩
theorem d_X10_need_23 : pm_P e_X10_need 23 0 24 := Or.inl ⟨0, by decide +kernel, by decide +kernel, rfl⟩
theorem d_X10_need_24 : pm_i e_X10_need 24 .istore_n .istore 3 25 := Or.inl ⟨3, by decide +kernel, rfl, rfl⟩
theorem d_X10_need_25 : pm_i e_X10_need 25 .iload_n .iload 3 26 := Or.inl ⟨3, by decide +kernel, rfl, rfl⟩
theorem d_X10_need_26 : pm_P e_X10_need 26 31 28 := Or.inr <| Or.inl ⟨31, by decide +kernel, by decide +kernel, rfl⟩
theorem d_X10_need_28 : pm_B e_X10_need 28 (fun z => .if_icmp .ge z) 49 31 := ⟨21, by decide +kernel, by decide, rfl⟩
theorem d_X10_need_31 : pm_i e_X10_need 31 .aload_n .aload 0 32 := Or.inl ⟨0, by decide +kernel, rfl, rfl⟩
theorem d_X10_need_32 : pm_F e_X10_need 32 .getfield (RX10, "held", "[I") 35 := ⟨86, by decide +kernel, rfl, Or.inl wm_768⟩
theorem d_X10_need_35 : pm_i e_X10_need 35 .iload_n .iload 3 36 := Or.inl ⟨3, by decide +kernel, rfl, rfl⟩
theorem d_X10_need_36 : pm_i e_X10_need 36 .aload_n .aload 0 37 := Or.inl ⟨0, by decide +kernel, rfl, rfl⟩
theorem d_X10_need_37 : pm_F e_X10_need 37 .getfield (RX10, "shares", "[I") 40 := ⟨83, by decide +kernel, rfl, Or.inl wm_767⟩
theorem d_X10_need_40 : pm_i e_X10_need 40 .iload_n .iload 3 41 := Or.inl ⟨3, by decide +kernel, rfl, rfl⟩
theorem d_X10_need_41 : pm_D e_X10_need 41 1 (.iaload) 42 := ⟨by decide +kernel, rfl⟩
theorem d_X10_need_42 : pm_D e_X10_need 42 1 (.iastore) 43 := ⟨by decide +kernel, rfl⟩
theorem d_X10_need_43 : pm_I e_X10_need 43 3 1 46 := ⟨1, by decide +kernel, by decide +kernel, rfl⟩
theorem d_X10_need_46 : pm_B e_X10_need 46 (fun z => .goto z) 25 49 := ⟨-21, by decide +kernel, by decide, rfl⟩
theorem d_X10_need_49 : pm_i e_X10_need 49 .aload_n .aload 0 50 := Or.inl ⟨0, by decide +kernel, rfl, rfl⟩
theorem d_X10_need_50 : pm_i e_X10_need 50 .iload_n .iload 2 51 := Or.inl ⟨2, by decide +kernel, rfl, rfl⟩
theorem d_X10_need_51 : pm_kV e_X10_need 51 e_X10_setShares RX10 1 54 := ⟨224, by decide +kernel, rfl, fit_X10_need_X10_setShares, wm_1067, Or.inl ⟨wm_1065, wm_41⟩⟩
theorem d_X10_need_54 : pm_P e_X10_need 54 0 55 := Or.inl ⟨0, by decide +kernel, by decide +kernel, rfl⟩
theorem d_X10_need_55 : pm_i e_X10_need 55 .istore_n .istore 3 56 := Or.inl ⟨3, by decide +kernel, rfl, rfl⟩
theorem d_X10_need_56 : pm_P e_X10_need 56 0 57 := Or.inl ⟨0, by decide +kernel, by decide +kernel, rfl⟩
theorem d_X10_need_57 : pm_i e_X10_need 57 .istore_n .istore 4 59 := Or.inr ⟨by decide +kernel, rfl⟩
theorem d_X10_need_59 : pm_i e_X10_need 59 .iload_n .iload 4 61 := Or.inr ⟨by decide +kernel, rfl⟩
theorem d_X10_need_61 : pm_P e_X10_need 61 31 63 := Or.inr <| Or.inl ⟨31, by decide +kernel, by decide +kernel, rfl⟩
theorem d_X10_need_63 : pm_B e_X10_need 63 (fun z => .if_icmp .ge z) 125 66 := ⟨62, by decide +kernel, by decide, rfl⟩
theorem d_X10_need_66 : pm_i e_X10_need 66 .iload_n .iload 3 67 := Or.inl ⟨3, by decide +kernel, rfl, rfl⟩
theorem d_X10_need_67 : pm_i e_X10_need 67 .aload_n .aload 0 68 := Or.inl ⟨0, by decide +kernel, rfl, rfl⟩
theorem d_X10_need_68 : pm_F e_X10_need 68 .getfield (RX10, "held", "[I") 71 := ⟨86, by decide +kernel, rfl, Or.inl wm_768⟩
theorem d_X10_need_71 : pm_i e_X10_need 71 .iload_n .iload 4 73 := Or.inr ⟨by decide +kernel, rfl⟩
theorem d_X10_need_73 : pm_D e_X10_need 73 1 (.iaload) 74 := ⟨by decide +kernel, rfl⟩
theorem d_X10_need_74 : pm_i e_X10_need 74 .aload_n .aload 0 75 := Or.inl ⟨0, by decide +kernel, rfl, rfl⟩
theorem d_X10_need_75 : pm_F e_X10_need 75 .getfield (RX10, "shares", "[I") 78 := ⟨83, by decide +kernel, rfl, Or.inl wm_767⟩
theorem d_X10_need_78 : pm_i e_X10_need 78 .iload_n .iload 4 80 := Or.inr ⟨by decide +kernel, rfl⟩
theorem d_X10_need_80 : pm_D e_X10_need 80 1 (.iaload) 81 := ⟨by decide +kernel, rfl⟩
theorem d_X10_need_81 : pm_B e_X10_need 81 (fun z => .if_icmp .le z) 102 84 := ⟨21, by decide +kernel, by decide, rfl⟩
theorem d_X10_need_84 : pm_i e_X10_need 84 .aload_n .aload 0 85 := Or.inl ⟨0, by decide +kernel, rfl, rfl⟩
theorem d_X10_need_85 : pm_F e_X10_need 85 .getfield (RX10, "held", "[I") 88 := ⟨86, by decide +kernel, rfl, Or.inl wm_768⟩
theorem d_X10_need_88 : pm_i e_X10_need 88 .iload_n .iload 4 90 := Or.inr ⟨by decide +kernel, rfl⟩
theorem d_X10_need_90 : pm_D e_X10_need 90 1 (.iaload) 91 := ⟨by decide +kernel, rfl⟩
theorem d_X10_need_91 : pm_i e_X10_need 91 .aload_n .aload 0 92 := Or.inl ⟨0, by decide +kernel, rfl, rfl⟩
theorem d_X10_need_92 : pm_F e_X10_need 92 .getfield (RX10, "shares", "[I") 95 := ⟨83, by decide +kernel, rfl, Or.inl wm_767⟩
theorem d_X10_need_95 : pm_i e_X10_need 95 .iload_n .iload 4 97 := Or.inr ⟨by decide +kernel, rfl⟩
theorem d_X10_need_97 : pm_D e_X10_need 97 1 (.iaload) 98 := ⟨by decide +kernel, rfl⟩
theorem d_X10_need_98 : pm_D e_X10_need 98 1 (.isub) 99 := ⟨by decide +kernel, rfl⟩
theorem d_X10_need_99 : pm_B e_X10_need 99 (fun z => .goto z) 117 102 := ⟨18, by decide +kernel, by decide, rfl⟩
theorem d_X10_need_102 : pm_i e_X10_need 102 .aload_n .aload 0 103 := Or.inl ⟨0, by decide +kernel, rfl, rfl⟩
theorem d_X10_need_103 : pm_F e_X10_need 103 .getfield (RX10, "shares", "[I") 106 := ⟨83, by decide +kernel, rfl, Or.inl wm_767⟩
theorem d_X10_need_106 : pm_i e_X10_need 106 .iload_n .iload 4 108 := Or.inr ⟨by decide +kernel, rfl⟩
theorem d_X10_need_108 : pm_D e_X10_need 108 1 (.iaload) 109 := ⟨by decide +kernel, rfl⟩
theorem d_X10_need_109 : pm_i e_X10_need 109 .aload_n .aload 0 110 := Or.inl ⟨0, by decide +kernel, rfl, rfl⟩
theorem d_X10_need_110 : pm_F e_X10_need 110 .getfield (RX10, "held", "[I") 113 := ⟨86, by decide +kernel, rfl, Or.inl wm_768⟩
theorem d_X10_need_113 : pm_i e_X10_need 113 .iload_n .iload 4 115 := Or.inr ⟨by decide +kernel, rfl⟩
theorem d_X10_need_115 : pm_D e_X10_need 115 1 (.iaload) 116 := ⟨by decide +kernel, rfl⟩
theorem d_X10_need_116 : pm_D e_X10_need 116 1 (.isub) 117 := ⟨by decide +kernel, rfl⟩
theorem d_X10_need_117 : pm_D e_X10_need 117 1 (.iadd) 118 := ⟨by decide +kernel, rfl⟩
theorem d_X10_need_118 : pm_i e_X10_need 118 .istore_n .istore 3 119 := Or.inl ⟨3, by decide +kernel, rfl, rfl⟩
theorem d_X10_need_119 : pm_I e_X10_need 119 4 1 122 := ⟨1, by decide +kernel, by decide +kernel, rfl⟩
theorem d_X10_need_122 : pm_B e_X10_need 122 (fun z => .goto z) 59 125 := ⟨-63, by decide +kernel, by decide, rfl⟩
theorem d_X10_need_125 : pm_i e_X10_need 125 .iload_n .iload 3 126 := Or.inl ⟨3, by decide +kernel, rfl, rfl⟩
theorem d_X10_need_126 : pm_B e_X10_need 126 (fun z => .ifCond .ne z) 134 129 := ⟨8, by decide +kernel, by decide, rfl⟩
theorem d_X10_need_129 : pm_P e_X10_need 129 (-9) 131 := Or.inr <| Or.inl ⟨-9, by decide +kernel, by decide +kernel, rfl⟩
theorem d_X10_need_131 : pm_B e_X10_need 131 (fun z => .goto z) 140 134 := ⟨9, by decide +kernel, by decide, rfl⟩
theorem d_X10_need_134 : pm_P e_X10_need 134 9999999 136 := Or.inr <| Or.inr <| Or.inr <| Or.inl ⟨233, by decide +kernel, wm_1083, rfl⟩
theorem d_X10_need_136 : pm_i e_X10_need 136 .iload_n .iload 3 137 := Or.inl ⟨3, by decide +kernel, rfl, rfl⟩
theorem d_X10_need_137 : pm_D e_X10_need 137 1 (.iadd) 138 := ⟨by decide +kernel, rfl⟩
theorem d_X10_need_138 : pm_i e_X10_need 138 .iload_n .iload 3 139 := Or.inl ⟨3, by decide +kernel, rfl, rfl⟩
theorem d_X10_need_139 : pm_D e_X10_need 139 1 (.idiv) 140 := ⟨by decide +kernel, rfl⟩
theorem d_X10_need_140 : pm_D e_X10_need 140 1 (.ireturn) 141 := ⟨by decide +kernel, rfl⟩
theorem d_X10_asked_0 : pm_i e_X10_asked 0 .aload_n .aload 0 1 := Or.inl ⟨0, by decide +kernel, rfl, rfl⟩
theorem d_X10_asked_1 : pm_F e_X10_asked 1 .getfield (RX10, "asked", "J") 4 := ⟨210, by decide +kernel, rfl, Or.inl wm_738⟩
theorem d_X10_asked_4 : pm_D e_X10_asked 4 1 (.lreturn) 5 := ⟨by decide +kernel, rfl⟩
theorem d_X10_upper_0 : pm_i e_X10_upper 0 .aload_n .aload 0 1 := Or.inl ⟨0, by decide +kernel, rfl, rfl⟩
theorem d_X10_upper_1 : pm_F e_X10_upper 1 .getfield (RX10, "upper", "J") 4 := ⟨96, by decide +kernel, rfl, Or.inl wm_739⟩
theorem d_X10_upper_4 : pm_D e_X10_upper 4 1 (.lreturn) 5 := ⟨by decide +kernel, rfl⟩
theorem d_X10_lower_0 : pm_i e_X10_lower 0 .aload_n .aload 0 1 := Or.inl ⟨0, by decide +kernel, rfl, rfl⟩
theorem d_X10_lower_1 : pm_F e_X10_lower 1 .getfield (RX10, "lower", "J") 4 := ⟨13, by decide +kernel, rfl, Or.inl wm_740⟩
theorem d_X10_lower_4 : pm_D e_X10_lower 4 1 (.lreturn) 5 := ⟨by decide +kernel, rfl⟩
theorem d_X10_count_0 : pm_P e_X10_count 0 0 1 := Or.inl ⟨0, by decide +kernel, by decide +kernel, rfl⟩
theorem d_X10_count_1 : pm_i e_X10_count 1 .istore_n .istore 2 2 := Or.inl ⟨2, by decide +kernel, rfl, rfl⟩
theorem d_X10_count_2 : pm_P e_X10_count 2 0 3 := Or.inl ⟨0, by decide +kernel, by decide +kernel, rfl⟩
theorem d_X10_count_3 : pm_i e_X10_count 3 .istore_n .istore 3 4 := Or.inl ⟨3, by decide +kernel, rfl, rfl⟩
theorem d_X10_count_4 : pm_i e_X10_count 4 .iload_n .iload 3 5 := Or.inl ⟨3, by decide +kernel, rfl, rfl⟩
theorem d_X10_count_5 : pm_P e_X10_count 5 4 6 := Or.inl ⟨4, by decide +kernel, by decide +kernel, rfl⟩
theorem d_X10_count_6 : pm_B e_X10_count 6 (fun z => .if_icmp .ge z) 37 9 := ⟨31, by decide +kernel, by decide, rfl⟩
theorem d_X10_count_9 : pm_i e_X10_count 9 .iload_n .iload 1 10 := Or.inl ⟨1, by decide +kernel, rfl, rfl⟩
theorem d_X10_count_10 : pm_P e_X10_count 10 1 11 := Or.inl ⟨1, by decide +kernel, by decide +kernel, rfl⟩
theorem d_X10_count_11 : pm_B e_X10_count 11 (fun z => .if_icmp .ne z) 37 14 := ⟨26, by decide +kernel, by decide, rfl⟩
theorem d_X10_count_14 : pm_i e_X10_count 14 .iload_n .iload 2 15 := Or.inl ⟨2, by decide +kernel, rfl, rfl⟩
theorem d_X10_count_15 : pm_i e_X10_count 15 .aload_n .aload 0 16 := Or.inl ⟨0, by decide +kernel, rfl, rfl⟩
theorem d_X10_count_16 : pm_F e_X10_count 16 .getfield (RX10, "sizes", "[I") 19 := ⟨71, by decide +kernel, rfl, Or.inl wm_762⟩
theorem d_X10_count_19 : pm_i e_X10_count 19 .iload_n .iload 3 20 := Or.inl ⟨3, by decide +kernel, rfl, rfl⟩
theorem d_X10_count_20 : pm_D e_X10_count 20 1 (.iaload) 21 := ⟨by decide +kernel, rfl⟩
theorem d_X10_count_21 : pm_B e_X10_count 21 (fun z => .ifCond .lt z) 28 24 := ⟨7, by decide +kernel, by decide, rfl⟩
theorem d_X10_count_24 : pm_P e_X10_count 24 1 25 := Or.inl ⟨1, by decide +kernel, by decide +kernel, rfl⟩
theorem d_X10_count_25 : pm_B e_X10_count 25 (fun z => .goto z) 29 28 := ⟨4, by decide +kernel, by decide, rfl⟩
theorem d_X10_count_28 : pm_P e_X10_count 28 0 29 := Or.inl ⟨0, by decide +kernel, by decide +kernel, rfl⟩
theorem d_X10_count_29 : pm_D e_X10_count 29 1 (.iadd) 30 := ⟨by decide +kernel, rfl⟩
theorem d_X10_count_30 : pm_i e_X10_count 30 .istore_n .istore 2 31 := Or.inl ⟨2, by decide +kernel, rfl, rfl⟩
theorem d_X10_count_31 : pm_I e_X10_count 31 3 1 34 := ⟨1, by decide +kernel, by decide +kernel, rfl⟩
theorem d_X10_count_34 : pm_B e_X10_count 34 (fun z => .goto z) 4 37 := ⟨-30, by decide +kernel, by decide, rfl⟩
theorem d_X10_count_37 : pm_P e_X10_count 37 0 38 := Or.inl ⟨0, by decide +kernel, by decide +kernel, rfl⟩
theorem d_X10_count_38 : pm_i e_X10_count 38 .istore_n .istore 3 39 := Or.inl ⟨3, by decide +kernel, rfl, rfl⟩
theorem d_X10_count_39 : pm_i e_X10_count 39 .iload_n .iload 3 40 := Or.inl ⟨3, by decide +kernel, rfl, rfl⟩
theorem d_X10_count_40 : pm_P e_X10_count 40 48 42 := Or.inr <| Or.inl ⟨48, by decide +kernel, by decide +kernel, rfl⟩
theorem d_X10_count_42 : pm_B e_X10_count 42 (fun z => .if_icmp .ge z) 86 45 := ⟨44, by decide +kernel, by decide, rfl⟩
theorem d_X10_count_45 : pm_i e_X10_count 45 .iload_n .iload 1 46 := Or.inl ⟨1, by decide +kernel, rfl, rfl⟩
theorem d_X10_count_46 : pm_P e_X10_count 46 2 47 := Or.inl ⟨2, by decide +kernel, by decide +kernel, rfl⟩
theorem d_X10_count_47 : pm_B e_X10_count 47 (fun z => .if_icmp .ne z) 86 50 := ⟨39, by decide +kernel, by decide, rfl⟩
theorem d_X10_count_50 : pm_i e_X10_count 50 .iload_n .iload 2 51 := Or.inl ⟨2, by decide +kernel, rfl, rfl⟩
theorem d_X10_count_51 : pm_i e_X10_count 51 .aload_n .aload 0 52 := Or.inl ⟨0, by decide +kernel, rfl, rfl⟩
theorem d_X10_count_52 : pm_F e_X10_count 52 .getfield (RX10, "figures", "[I") 55 := ⟨55, by decide +kernel, rfl, Or.inl wm_757⟩
theorem d_X10_count_55 : pm_i e_X10_count 55 .iload_n .iload 3 56 := Or.inl ⟨3, by decide +kernel, rfl, rfl⟩
theorem d_X10_count_56 : pm_D e_X10_count 56 1 (.iaload) 57 := ⟨by decide +kernel, rfl⟩
theorem d_X10_count_57 : pm_P e_X10_count 57 6 59 := Or.inr <| Or.inl ⟨6, by decide +kernel, by decide +kernel, rfl⟩
theorem d_X10_count_59 : pm_B e_X10_count 59 (fun z => .if_icmp .eq z) 73 62 := ⟨14, by decide +kernel, by decide, rfl⟩
theorem d_X10_count_62 : pm_i e_X10_count 62 .aload_n .aload 0 63 := Or.inl ⟨0, by decide +kernel, rfl, rfl⟩
theorem d_X10_count_63 : pm_F e_X10_count 63 .getfield (RX10, "figures", "[I") 66 := ⟨55, by decide +kernel, rfl, Or.inl wm_757⟩
theorem d_X10_count_66 : pm_i e_X10_count 66 .iload_n .iload 3 67 := Or.inl ⟨3, by decide +kernel, rfl, rfl⟩
theorem d_X10_count_67 : pm_D e_X10_count 67 1 (.iaload) 68 := ⟨by decide +kernel, rfl⟩
theorem d_X10_count_68 : pm_P e_X10_count 68 9 70 := Or.inr <| Or.inl ⟨9, by decide +kernel, by decide +kernel, rfl⟩
theorem d_X10_count_70 : pm_B e_X10_count 70 (fun z => .if_icmp .ne z) 77 73 := ⟨7, by decide +kernel, by decide, rfl⟩
theorem d_X10_count_73 : pm_P e_X10_count 73 1 74 := Or.inl ⟨1, by decide +kernel, by decide +kernel, rfl⟩
theorem d_X10_count_74 : pm_B e_X10_count 74 (fun z => .goto z) 78 77 := ⟨4, by decide +kernel, by decide, rfl⟩
theorem d_X10_count_77 : pm_P e_X10_count 77 0 78 := Or.inl ⟨0, by decide +kernel, by decide +kernel, rfl⟩
theorem d_X10_count_78 : pm_D e_X10_count 78 1 (.iadd) 79 := ⟨by decide +kernel, rfl⟩
theorem d_X10_count_79 : pm_i e_X10_count 79 .istore_n .istore 2 80 := Or.inl ⟨2, by decide +kernel, rfl, rfl⟩
theorem d_X10_count_80 : pm_I e_X10_count 80 3 1 83 := ⟨1, by decide +kernel, by decide +kernel, rfl⟩
theorem d_X10_count_83 : pm_B e_X10_count 83 (fun z => .goto z) 39 86 := ⟨-44, by decide +kernel, by decide, rfl⟩
theorem d_X10_count_86 : pm_i e_X10_count 86 .iload_n .iload 1 87 := Or.inl ⟨1, by decide +kernel, rfl, rfl⟩
theorem d_X10_count_87 : pm_B e_X10_count 87 (fun z => .ifCond .ne z) 97 90 := ⟨10, by decide +kernel, by decide, rfl⟩
theorem d_X10_count_90 : pm_i e_X10_count 90 .aload_n .aload 0 91 := Or.inl ⟨0, by decide +kernel, rfl, rfl⟩
theorem d_X10_count_91 : pm_F e_X10_count 91 .getfield (RX10, "casters", "I") 94 := ⟨99, by decide +kernel, rfl, Or.inl wm_741⟩
theorem d_X10_count_94 : pm_B e_X10_count 94 (fun z => .goto z) 111 97 := ⟨17, by decide +kernel, by decide, rfl⟩
theorem d_X10_count_97 : pm_i e_X10_count 97 .iload_n .iload 1 98 := Or.inl ⟨1, by decide +kernel, rfl, rfl⟩
theorem d_X10_count_98 : pm_P e_X10_count 98 1 99 := Or.inl ⟨1, by decide +kernel, by decide +kernel, rfl⟩
theorem d_X10_count_99 : pm_P e_X10_count 99 2 100 := Or.inl ⟨2, by decide +kernel, by decide +kernel, rfl⟩
theorem d_X10_count_100 : pm_kS e_X10_count 100 e_X10_in 3 103 := ⟨106, by decide +kernel, rfl, fit_X10_count_X10_in, wm_853, Or.inl wm_852⟩
theorem d_X10_count_103 : pm_B e_X10_count 103 (fun z => .ifCond .eq z) 110 106 := ⟨7, by decide +kernel, by decide, rfl⟩
theorem d_X10_count_106 : pm_i e_X10_count 106 .iload_n .iload 2 107 := Or.inl ⟨2, by decide +kernel, rfl, rfl⟩
theorem d_X10_count_107 : pm_B e_X10_count 107 (fun z => .goto z) 111 110 := ⟨4, by decide +kernel, by decide, rfl⟩
theorem d_X10_count_110 : pm_P e_X10_count 110 (-1) 111 := Or.inl ⟨-1, by decide +kernel, by decide +kernel, rfl⟩
theorem d_X10_count_111 : pm_D e_X10_count 111 1 (.ireturn) 112 := ⟨by decide +kernel, rfl⟩
theorem d_X10_finding_0 : pm_i e_X10_finding 0 .aload_n .aload 0 1 := Or.inl ⟨0, by decide +kernel, rfl, rfl⟩
theorem d_X10_finding_1 : pm_F e_X10_finding 1 .getfield (RX10, "finding", "I") 4 := ⟨89, by decide +kernel, rfl, Or.inl wm_736⟩
theorem d_X10_finding_4 : pm_D e_X10_finding 4 1 (.ireturn) 5 := ⟨by decide +kernel, rfl⟩
theorem d_X10_findings_0 : pm_i e_X10_findings 0 .iload_n .iload 1 1 := Or.inl ⟨1, by decide +kernel, rfl, rfl⟩
theorem d_X10_findings_1 : pm_P e_X10_findings 1 1 2 := Or.inl ⟨1, by decide +kernel, by decide +kernel, rfl⟩
theorem d_X10_findings_2 : pm_P e_X10_findings 2 5 3 := Or.inl ⟨5, by decide +kernel, by decide +kernel, rfl⟩
theorem d_X10_findings_3 : pm_kS e_X10_findings 3 e_X10_in 3 6 := ⟨106, by decide +kernel, rfl, fit_X10_findings_X10_in, wm_853, Or.inl wm_852⟩
theorem d_X10_findings_6 : pm_B e_X10_findings 6 (fun z => .ifCond .eq z) 18 9 := ⟨12, by decide +kernel, by decide, rfl⟩
theorem d_X10_findings_9 : pm_i e_X10_findings 9 .aload_n .aload 0 10 := Or.inl ⟨0, by decide +kernel, rfl, rfl⟩
theorem d_X10_findings_10 : pm_F e_X10_findings 10 .getfield (RX10, "findings", "[I") 13 := ⟨7, by decide +kernel, rfl, Or.inl wm_737⟩
theorem d_X10_findings_13 : pm_i e_X10_findings 13 .iload_n .iload 1 14 := Or.inl ⟨1, by decide +kernel, rfl, rfl⟩
theorem d_X10_findings_14 : pm_D e_X10_findings 14 1 (.iaload) 15 := ⟨by decide +kernel, rfl⟩
theorem d_X10_findings_15 : pm_B e_X10_findings 15 (fun z => .goto z) 19 18 := ⟨4, by decide +kernel, by decide, rfl⟩
theorem d_X10_findings_18 : pm_P e_X10_findings 18 (-1) 19 := Or.inl ⟨-1, by decide +kernel, by decide +kernel, rfl⟩
theorem d_X10_findings_19 : pm_D e_X10_findings 19 1 (.ireturn) 20 := ⟨by decide +kernel, rfl⟩
theorem d_X10_digest_0 : pm_PL e_X10_digest 0 17 3 := Or.inr ⟨234, by decide +kernel, wm_1112, rfl⟩
theorem d_X10_digest_3 : pm_i e_X10_digest 3 .lstore_n .lstore 1 4 := Or.inl ⟨1, by decide +kernel, rfl, rfl⟩
theorem d_X10_digest_4 : pm_P e_X10_digest 4 0 5 := Or.inl ⟨0, by decide +kernel, by decide +kernel, rfl⟩
theorem d_X10_digest_5 : pm_i e_X10_digest 5 .istore_n .istore 3 6 := Or.inl ⟨3, by decide +kernel, rfl, rfl⟩
theorem d_X10_digest_6 : pm_i e_X10_digest 6 .iload_n .iload 3 7 := Or.inl ⟨3, by decide +kernel, rfl, rfl⟩
theorem d_X10_digest_7 : pm_i e_X10_digest 7 .aload_n .aload 0 8 := Or.inl ⟨0, by decide +kernel, rfl, rfl⟩
theorem d_X10_digest_8 : pm_F e_X10_digest 8 .getfield (RX10, "casters", "I") 11 := ⟨99, by decide +kernel, rfl, Or.inl wm_741⟩
theorem d_X10_digest_11 : pm_B e_X10_digest 11 (fun z => .if_icmp .ge z) 50 14 := ⟨39, by decide +kernel, by decide, rfl⟩
theorem d_X10_digest_14 : pm_P e_X10_digest 14 0 15 := Or.inl ⟨0, by decide +kernel, by decide +kernel, rfl⟩
theorem d_X10_digest_15 : pm_i e_X10_digest 15 .istore_n .istore 4 17 := Or.inr ⟨by decide +kernel, rfl⟩
theorem d_X10_digest_17 : pm_i e_X10_digest 17 .iload_n .iload 4 19 := Or.inr ⟨by decide +kernel, rfl⟩
theorem d_X10_digest_19 : pm_P e_X10_digest 19 3 20 := Or.inl ⟨3, by decide +kernel, by decide +kernel, rfl⟩
theorem d_X10_digest_20 : pm_B e_X10_digest 20 (fun z => .if_icmp .gt z) 44 23 := ⟨24, by decide +kernel, by decide, rfl⟩
theorem d_X10_digest_23 : pm_PL e_X10_digest 23 31 26 := Or.inr ⟨236, by decide +kernel, wm_1113, rfl⟩
theorem d_X10_digest_26 : pm_i e_X10_digest 26 .lload_n .lload 1 27 := Or.inl ⟨1, by decide +kernel, rfl, rfl⟩
theorem d_X10_digest_27 : pm_D e_X10_digest 27 1 (.lmul) 28 := ⟨by decide +kernel, rfl⟩
theorem d_X10_digest_28 : pm_i e_X10_digest 28 .aload_n .aload 0 29 := Or.inl ⟨0, by decide +kernel, rfl, rfl⟩
theorem d_X10_digest_29 : pm_i e_X10_digest 29 .iload_n .iload 3 30 := Or.inl ⟨3, by decide +kernel, rfl, rfl⟩
theorem d_X10_digest_30 : pm_i e_X10_digest 30 .iload_n .iload 4 32 := Or.inr ⟨by decide +kernel, rfl⟩
theorem d_X10_digest_32 : pm_kV e_X10_digest 32 e_X10_tells RX10 2 35 := ⟨121, by decide +kernel, rfl, fit_X10_digest_X10_tells, wm_869, Or.inl ⟨wm_867, wm_21⟩⟩
theorem d_X10_digest_35 : pm_D e_X10_digest 35 1 (.i2l) 36 := ⟨by decide +kernel, rfl⟩
theorem d_X10_digest_36 : pm_D e_X10_digest 36 1 (.ladd) 37 := ⟨by decide +kernel, rfl⟩
theorem d_X10_digest_37 : pm_i e_X10_digest 37 .lstore_n .lstore 1 38 := Or.inl ⟨1, by decide +kernel, rfl, rfl⟩
theorem d_X10_digest_38 : pm_I e_X10_digest 38 4 1 41 := ⟨1, by decide +kernel, by decide +kernel, rfl⟩
theorem d_X10_digest_41 : pm_B e_X10_digest 41 (fun z => .goto z) 17 44 := ⟨-24, by decide +kernel, by decide, rfl⟩
theorem d_X10_digest_44 : pm_I e_X10_digest 44 3 1 47 := ⟨1, by decide +kernel, by decide +kernel, rfl⟩
theorem d_X10_digest_47 : pm_B e_X10_digest 47 (fun z => .goto z) 6 50 := ⟨-41, by decide +kernel, by decide, rfl⟩
theorem d_X10_digest_50 : pm_P e_X10_digest 50 0 51 := Or.inl ⟨0, by decide +kernel, by decide +kernel, rfl⟩
theorem d_X10_digest_51 : pm_i e_X10_digest 51 .istore_n .istore 3 52 := Or.inl ⟨3, by decide +kernel, rfl, rfl⟩
theorem d_X10_digest_52 : pm_i e_X10_digest 52 .iload_n .iload 3 53 := Or.inl ⟨3, by decide +kernel, rfl, rfl⟩
theorem d_X10_digest_53 : pm_P e_X10_digest 53 48 55 := Or.inr <| Or.inl ⟨48, by decide +kernel, by decide +kernel, rfl⟩
theorem d_X10_digest_55 : pm_B e_X10_digest 55 (fun z => .if_icmp .ge z) 78 58 := ⟨23, by decide +kernel, by decide, rfl⟩
theorem d_X10_digest_58 : pm_PL e_X10_digest 58 31 61 := Or.inr ⟨236, by decide +kernel, wm_1113, rfl⟩
theorem d_X10_digest_61 : pm_i e_X10_digest 61 .lload_n .lload 1 62 := Or.inl ⟨1, by decide +kernel, rfl, rfl⟩
theorem d_X10_digest_62 : pm_D e_X10_digest 62 1 (.lmul) 63 := ⟨by decide +kernel, rfl⟩
theorem d_X10_digest_63 : pm_i e_X10_digest 63 .aload_n .aload 0 64 := Or.inl ⟨0, by decide +kernel, rfl, rfl⟩
theorem d_X10_digest_64 : pm_F e_X10_digest 64 .getfield (RX10, "figures", "[I") 67 := ⟨55, by decide +kernel, rfl, Or.inl wm_757⟩
theorem d_X10_digest_67 : pm_i e_X10_digest 67 .iload_n .iload 3 68 := Or.inl ⟨3, by decide +kernel, rfl, rfl⟩
theorem d_X10_digest_68 : pm_D e_X10_digest 68 1 (.iaload) 69 := ⟨by decide +kernel, rfl⟩
theorem d_X10_digest_69 : pm_D e_X10_digest 69 1 (.i2l) 70 := ⟨by decide +kernel, rfl⟩
theorem d_X10_digest_70 : pm_D e_X10_digest 70 1 (.ladd) 71 := ⟨by decide +kernel, rfl⟩
theorem d_X10_digest_71 : pm_i e_X10_digest 71 .lstore_n .lstore 1 72 := Or.inl ⟨1, by decide +kernel, rfl, rfl⟩
theorem d_X10_digest_72 : pm_I e_X10_digest 72 3 1 75 := ⟨1, by decide +kernel, by decide +kernel, rfl⟩
theorem d_X10_digest_75 : pm_B e_X10_digest 75 (fun z => .goto z) 52 78 := ⟨-23, by decide +kernel, by decide, rfl⟩
theorem d_X10_digest_78 : pm_P e_X10_digest 78 0 79 := Or.inl ⟨0, by decide +kernel, by decide +kernel, rfl⟩
theorem d_X10_digest_79 : pm_i e_X10_digest 79 .istore_n .istore 3 80 := Or.inl ⟨3, by decide +kernel, rfl, rfl⟩
theorem d_X10_digest_80 : pm_i e_X10_digest 80 .iload_n .iload 3 81 := Or.inl ⟨3, by decide +kernel, rfl, rfl⟩
theorem d_X10_digest_81 : pm_P e_X10_digest 81 4 82 := Or.inl ⟨4, by decide +kernel, by decide +kernel, rfl⟩
theorem d_X10_digest_82 : pm_B e_X10_digest 82 (fun z => .if_icmp .ge z) 158 85 := ⟨76, by decide +kernel, by decide, rfl⟩
theorem d_X10_digest_85 : pm_PL e_X10_digest 85 31 88 := Or.inr ⟨236, by decide +kernel, wm_1113, rfl⟩
theorem d_X10_digest_88 : pm_i e_X10_digest 88 .lload_n .lload 1 89 := Or.inl ⟨1, by decide +kernel, rfl, rfl⟩
theorem d_X10_digest_89 : pm_D e_X10_digest 89 1 (.lmul) 90 := ⟨by decide +kernel, rfl⟩
theorem d_X10_digest_90 : pm_i e_X10_digest 90 .aload_n .aload 0 91 := Or.inl ⟨0, by decide +kernel, rfl, rfl⟩
theorem d_X10_digest_91 : pm_F e_X10_digest 91 .getfield (RX10, "sizes", "[I") 94 := ⟨71, by decide +kernel, rfl, Or.inl wm_762⟩
theorem d_X10_digest_94 : pm_i e_X10_digest 94 .iload_n .iload 3 95 := Or.inl ⟨3, by decide +kernel, rfl, rfl⟩
theorem d_X10_digest_95 : pm_D e_X10_digest 95 1 (.iaload) 96 := ⟨by decide +kernel, rfl⟩
theorem d_X10_digest_96 : pm_B e_X10_digest 96 (fun z => .ifCond .ge z) 103 99 := ⟨7, by decide +kernel, by decide, rfl⟩
theorem d_X10_digest_99 : pm_P e_X10_digest 99 (-1) 100 := Or.inl ⟨-1, by decide +kernel, by decide +kernel, rfl⟩
theorem d_X10_digest_100 : pm_B e_X10_digest 100 (fun z => .goto z) 109 103 := ⟨9, by decide +kernel, by decide, rfl⟩
theorem d_X10_digest_103 : pm_i e_X10_digest 103 .aload_n .aload 0 104 := Or.inl ⟨0, by decide +kernel, rfl, rfl⟩
theorem d_X10_digest_104 : pm_F e_X10_digest 104 .getfield (RX10, "sizes", "[I") 107 := ⟨71, by decide +kernel, rfl, Or.inl wm_762⟩
theorem d_X10_digest_107 : pm_i e_X10_digest 107 .iload_n .iload 3 108 := Or.inl ⟨3, by decide +kernel, rfl, rfl⟩
theorem d_X10_digest_108 : pm_D e_X10_digest 108 1 (.iaload) 109 := ⟨by decide +kernel, rfl⟩
theorem d_X10_digest_109 : pm_D e_X10_digest 109 1 (.i2l) 110 := ⟨by decide +kernel, rfl⟩
theorem d_X10_digest_110 : pm_D e_X10_digest 110 1 (.ladd) 111 := ⟨by decide +kernel, rfl⟩
theorem d_X10_digest_111 : pm_i e_X10_digest 111 .lstore_n .lstore 1 112 := Or.inl ⟨1, by decide +kernel, rfl, rfl⟩
theorem d_X10_digest_112 : pm_P e_X10_digest 112 0 113 := Or.inl ⟨0, by decide +kernel, by decide +kernel, rfl⟩
theorem d_X10_digest_113 : pm_i e_X10_digest 113 .istore_n .istore 4 115 := Or.inr ⟨by decide +kernel, rfl⟩
theorem d_X10_digest_115 : pm_i e_X10_digest 115 .iload_n .iload 4 117 := Or.inr ⟨by decide +kernel, rfl⟩
theorem d_X10_digest_117 : pm_i e_X10_digest 117 .aload_n .aload 0 118 := Or.inl ⟨0, by decide +kernel, rfl, rfl⟩
theorem d_X10_digest_118 : pm_F e_X10_digest 118 .getfield (RX10, "sizes", "[I") 121 := ⟨71, by decide +kernel, rfl, Or.inl wm_762⟩
theorem d_X10_digest_121 : pm_i e_X10_digest 121 .iload_n .iload 3 122 := Or.inl ⟨3, by decide +kernel, rfl, rfl⟩
theorem d_X10_digest_122 : pm_D e_X10_digest 122 1 (.iaload) 123 := ⟨by decide +kernel, rfl⟩
theorem d_X10_digest_123 : pm_B e_X10_digest 123 (fun z => .if_icmp .ge z) 152 126 := ⟨29, by decide +kernel, by decide, rfl⟩
theorem d_X10_digest_126 : pm_PL e_X10_digest 126 31 129 := Or.inr ⟨236, by decide +kernel, wm_1113, rfl⟩
theorem d_X10_digest_129 : pm_i e_X10_digest 129 .lload_n .lload 1 130 := Or.inl ⟨1, by decide +kernel, rfl, rfl⟩
theorem d_X10_digest_130 : pm_D e_X10_digest 130 1 (.lmul) 131 := ⟨by decide +kernel, rfl⟩
theorem d_X10_digest_131 : pm_i e_X10_digest 131 .aload_n .aload 0 132 := Or.inl ⟨0, by decide +kernel, rfl, rfl⟩
theorem d_X10_digest_132 : pm_F e_X10_digest 132 .getfield (RX10, "rows", "[I") 135 := ⟨74, by decide +kernel, rfl, Or.inl wm_763⟩
theorem d_X10_digest_135 : pm_P e_X10_digest 135 64 137 := Or.inr <| Or.inl ⟨64, by decide +kernel, by decide +kernel, rfl⟩
theorem d_X10_digest_137 : pm_i e_X10_digest 137 .iload_n .iload 3 138 := Or.inl ⟨3, by decide +kernel, rfl, rfl⟩
theorem d_X10_digest_138 : pm_D e_X10_digest 138 1 (.imul) 139 := ⟨by decide +kernel, rfl⟩
theorem d_X10_digest_139 : pm_i e_X10_digest 139 .iload_n .iload 4 141 := Or.inr ⟨by decide +kernel, rfl⟩
theorem d_X10_digest_141 : pm_D e_X10_digest 141 1 (.iadd) 142 := ⟨by decide +kernel, rfl⟩
theorem d_X10_digest_142 : pm_D e_X10_digest 142 1 (.iaload) 143 := ⟨by decide +kernel, rfl⟩
theorem d_X10_digest_143 : pm_D e_X10_digest 143 1 (.i2l) 144 := ⟨by decide +kernel, rfl⟩
theorem d_X10_digest_144 : pm_D e_X10_digest 144 1 (.ladd) 145 := ⟨by decide +kernel, rfl⟩
theorem d_X10_digest_145 : pm_i e_X10_digest 145 .lstore_n .lstore 1 146 := Or.inl ⟨1, by decide +kernel, rfl, rfl⟩
theorem d_X10_digest_146 : pm_I e_X10_digest 146 4 1 149 := ⟨1, by decide +kernel, by decide +kernel, rfl⟩
theorem d_X10_digest_149 : pm_B e_X10_digest 149 (fun z => .goto z) 115 152 := ⟨-34, by decide +kernel, by decide, rfl⟩
theorem d_X10_digest_152 : pm_I e_X10_digest 152 3 1 155 := ⟨1, by decide +kernel, by decide +kernel, rfl⟩
theorem d_X10_digest_155 : pm_B e_X10_digest 155 (fun z => .goto z) 80 158 := ⟨-75, by decide +kernel, by decide, rfl⟩
theorem d_X10_digest_158 : pm_i e_X10_digest 158 .lload_n .lload 1 159 := Or.inl ⟨1, by decide +kernel, rfl, rfl⟩
theorem d_X10_digest_159 : pm_D e_X10_digest 159 1 (.lreturn) 160 := ⟨by decide +kernel, rfl⟩
