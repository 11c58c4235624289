theorem d_X10_mean_1 : pm_i e_X10_mean 1 .iload_n .iload 1 2 := Or.inl ⟨1, by decide +kernel, rfl, rfl⟩
theorem d_X10_mean_2 : pm_kV e_X10_mean 2 e_X10_isCaster RX10 1 5 := ⟨118, by decide +kernel, rfl, fit_X10_mean_X10_isCaster, wm_865, Or.inl ⟨wm_863, wm_20⟩⟩
theorem d_X10_mean_5 : pm_B e_X10_mean 5 (fun z => .ifCond .ne z) 10 8 := ⟨5, by decide +kernel, by decide, rfl⟩
theorem d_X10_mean_8 : pm_P e_X10_mean 8 (-1) 9 := Or.inl ⟨-1, by decide +kernel, by decide +kernel, rfl⟩
theorem d_X10_mean_9 : pm_D e_X10_mean 9 1 (.ireturn) 10 := ⟨by decide +kernel, rfl⟩
theorem d_X10_mean_10 : pm_i e_X10_mean 10 .aload_n .aload 0 11 := Or.inl ⟨0, by decide +kernel, rfl, rfl⟩
theorem d_X10_mean_11 : pm_i e_X10_mean 11 .iload_n .iload 1 12 := Or.inl ⟨1, by decide +kernel, rfl, rfl⟩
theorem d_X10_mean_12 : pm_kV e_X10_mean 12 e_X10_setOdds RX10 1 15 := ⟨163, by decide +kernel, rfl, fit_X10_mean_X10_setOdds, wm_912, Or.inl ⟨wm_910, wm_27⟩⟩
theorem d_X10_mean_15 : pm_i e_X10_mean 15 .aload_n .aload 0 16 := Or.inl ⟨0, by decide +kernel, rfl, rfl⟩
theorem d_X10_mean_16 : pm_PL e_X10_mean 16 0 17 := Or.inl ⟨0, by decide +kernel, by decide +kernel, rfl⟩
theorem d_X10_mean_17 : pm_F e_X10_mean 17 .putfield (RX10, "sumUp", "J") 20 := ⟨142, by decide +kernel, rfl, Or.inl wm_754⟩
theorem d_X10_mean_20 : pm_i e_X10_mean 20 .aload_n .aload 0 21 := Or.inl ⟨0, by decide +kernel, rfl, rfl⟩
theorem d_X10_mean_21 : pm_PL e_X10_mean 21 1 22 := Or.inl ⟨1, by decide +kernel, by decide +kernel, rfl⟩
theorem d_X10_mean_22 : pm_F e_X10_mean 22 .putfield (RX10, "sumLow", "J") 25 := ⟨145, by decide +kernel, rfl, Or.inl wm_755⟩
theorem d_X10_mean_25 : pm_P e_X10_mean 25 0 26 := Or.inl ⟨0, by decide +kernel, by decide +kernel, rfl⟩
theorem d_X10_mean_26 : pm_i e_X10_mean 26 .istore_n .istore 2 27 := Or.inl ⟨2, by decide +kernel, rfl, rfl⟩
theorem d_X10_mean_27 : pm_i e_X10_mean 27 .iload_n .iload 2 28 := Or.inl ⟨2, by decide +kernel, rfl, rfl⟩
theorem d_X10_mean_28 : pm_P e_X10_mean 28 31 30 := Or.inr <| Or.inl ⟨31, by decide +kernel, by decide +kernel, rfl⟩
theorem d_X10_mean_30 : pm_B e_X10_mean 30 (fun z => .if_icmp .ge z) 66 33 := ⟨36, by decide +kernel, by decide, rfl⟩
theorem d_X10_mean_33 : pm_i e_X10_mean 33 .aload_n .aload 0 34 := Or.inl ⟨0, by decide +kernel, rfl, rfl⟩
theorem d_X10_mean_34 : pm_i e_X10_mean 34 .aload_n .aload 0 35 := Or.inl ⟨0, by decide +kernel, rfl, rfl⟩
theorem d_X10_mean_35 : pm_F e_X10_mean 35 .getfield (RX10, "sumUp", "J") 38 := ⟨142, by decide +kernel, rfl, Or.inl wm_754⟩
theorem d_X10_mean_38 : pm_i e_X10_mean 38 .aload_n .aload 0 39 := Or.inl ⟨0, by decide +kernel, rfl, rfl⟩
theorem d_X10_mean_39 : pm_F e_X10_mean 39 .getfield (RX10, "sumLow", "J") 42 := ⟨145, by decide +kernel, rfl, Or.inl wm_755⟩
theorem d_X10_mean_42 : pm_i e_X10_mean 42 .iload_n .iload 2 43 := Or.inl ⟨2, by decide +kernel, rfl, rfl⟩
theorem d_X10_mean_43 : pm_D e_X10_mean 43 1 (.i2l) 44 := ⟨by decide +kernel, rfl⟩
theorem d_X10_mean_44 : pm_i e_X10_mean 44 .aload_n .aload 0 45 := Or.inl ⟨0, by decide +kernel, rfl, rfl⟩
theorem d_X10_mean_45 : pm_F e_X10_mean 45 .getfield (RX10, "oddsUp", "[J") 48 := ⟨49, by decide +kernel, rfl, Or.inl wm_752⟩
theorem d_X10_mean_48 : pm_i e_X10_mean 48 .iload_n .iload 2 49 := Or.inl ⟨2, by decide +kernel, rfl, rfl⟩
theorem d_X10_mean_49 : pm_D e_X10_mean 49 1 (.laload) 50 := ⟨by decide +kernel, rfl⟩
theorem d_X10_mean_50 : pm_D e_X10_mean 50 1 (.lmul) 51 := ⟨by decide +kernel, rfl⟩
theorem d_X10_mean_51 : pm_i e_X10_mean 51 .aload_n .aload 0 52 := Or.inl ⟨0, by decide +kernel, rfl, rfl⟩
theorem d_X10_mean_52 : pm_F e_X10_mean 52 .getfield (RX10, "oddsLow", "[J") 55 := ⟨52, by decide +kernel, rfl, Or.inl wm_753⟩
theorem d_X10_mean_55 : pm_i e_X10_mean 55 .iload_n .iload 2 56 := Or.inl ⟨2, by decide +kernel, rfl, rfl⟩
theorem d_X10_mean_56 : pm_D e_X10_mean 56 1 (.laload) 57 := ⟨by decide +kernel, rfl⟩
theorem d_X10_mean_57 : pm_kV e_X10_mean 57 e_X10_add RX10 4 60 := ⟨159, by decide +kernel, rfl, fit_X10_mean_X10_add, wm_929, Or.inl ⟨wm_927, wm_30⟩⟩
theorem d_X10_mean_60 : pm_I e_X10_mean 60 2 1 63 := ⟨1, by decide +kernel, by decide +kernel, rfl⟩
theorem d_X10_mean_63 : pm_B e_X10_mean 63 (fun z => .goto z) 27 66 := ⟨-36, by decide +kernel, by decide, rfl⟩
theorem d_X10_mean_66 : pm_i e_X10_mean 66 .aload_n .aload 0 67 := Or.inl ⟨0, by decide +kernel, rfl, rfl⟩
theorem d_X10_mean_67 : pm_i e_X10_mean 67 .aload_n .aload 0 68 := Or.inl ⟨0, by decide +kernel, rfl, rfl⟩
theorem d_X10_mean_68 : pm_F e_X10_mean 68 .getfield (RX10, "sumUp", "J") 71 := ⟨142, by decide +kernel, rfl, Or.inl wm_754⟩
theorem d_X10_mean_71 : pm_i e_X10_mean 71 .aload_n .aload 0 72 := Or.inl ⟨0, by decide +kernel, rfl, rfl⟩
theorem d_X10_mean_72 : pm_F e_X10_mean 72 .getfield (RX10, "sumLow", "J") 75 := ⟨145, by decide +kernel, rfl, Or.inl wm_755⟩
theorem d_X10_mean_75 : pm_kV e_X10_mean 75 e_X10_tell RX10 2 78 := ⟨166, by decide +kernel, rfl, fit_X10_mean_X10_tell, wm_933, Or.inl ⟨wm_931, wm_31⟩⟩
theorem d_X10_mean_78 : pm_D e_X10_mean 78 1 (.ireturn) 79 := ⟨by decide +kernel, rfl⟩
theorem d_X10_under_0 : pm_i e_X10_under 0 .aload_n .aload 0 1 := Or.inl ⟨0, by decide +kernel, rfl, rfl⟩
theorem d_X10_under_1 : pm_i e_X10_under 1 .aload_n .aload 0 2 := Or.inl ⟨0, by decide +kernel, rfl, rfl⟩
theorem d_X10_under_2 : pm_F e_X10_under 2 .getfield (RX10, "seed", "J") 5 := ⟨170, by decide +kernel, rfl, Or.inl wm_756⟩
theorem d_X10_under_5 : pm_PL e_X10_under 5 6364136223846793005 8 := Or.inr ⟨173, by decide +kernel, wm_951, rfl⟩
theorem d_X10_under_8 : pm_D e_X10_under 8 1 (.lmul) 9 := ⟨by decide +kernel, rfl⟩
theorem d_X10_under_9 : pm_PL e_X10_under 9 1442695040888963407 12 := Or.inr ⟨175, by decide +kernel, wm_952, rfl⟩
theorem d_X10_under_12 : pm_D e_X10_under 12 1 (.ladd) 13 := ⟨by decide +kernel, rfl⟩
theorem d_X10_under_13 : pm_F e_X10_under 13 .putfield (RX10, "seed", "J") 16 := ⟨170, by decide +kernel, rfl, Or.inl wm_756⟩
theorem d_X10_under_16 : pm_i e_X10_under 16 .aload_n .aload 0 17 := Or.inl ⟨0, by decide +kernel, rfl, rfl⟩
theorem d_X10_under_17 : pm_F e_X10_under 17 .getfield (RX10, "seed", "J") 20 := ⟨170, by decide +kernel, rfl, Or.inl wm_756⟩
theorem d_X10_under_20 : pm_P e_X10_under 20 33 22 := Or.inr <| Or.inl ⟨33, by decide +kernel, by decide +kernel, rfl⟩
theorem d_X10_under_22 : pm_D e_X10_under 22 1 (.lushr) 23 := ⟨by decide +kernel, rfl⟩
theorem d_X10_under_23 : pm_i e_X10_under 23 .iload_n .iload 1 24 := Or.inl ⟨1, by decide +kernel, rfl, rfl⟩
theorem d_X10_under_24 : pm_D e_X10_under 24 1 (.i2l) 25 := ⟨by decide +kernel, rfl⟩
theorem d_X10_under_25 : pm_D e_X10_under 25 1 (.lrem) 26 := ⟨by decide +kernel, rfl⟩
theorem d_X10_under_26 : pm_D e_X10_under 26 1 (.l2i) 27 := ⟨by decide +kernel, rfl⟩
theorem d_X10_under_27 : pm_D e_X10_under 27 1 (.ireturn) 28 := ⟨by decide +kernel, rfl⟩
theorem d_X10_draws_0 : pm_i e_X10_draws 0 .aload_n .aload 0 1 := Or.inl ⟨0, by decide +kernel, rfl, rfl⟩
theorem d_X10_draws_1 : pm_F e_X10_draws 1 .getfield (RX10, "kinds", "[I") 4 := ⟨17, by decide +kernel, rfl, Or.inl wm_742⟩
theorem d_X10_draws_4 : pm_i e_X10_draws 4 .iload_n .iload 1 5 := Or.inl ⟨1, by decide +kernel, rfl, rfl⟩
theorem d_X10_draws_5 : pm_D e_X10_draws 5 1 (.iaload) 6 := ⟨by decide +kernel, rfl⟩
theorem d_X10_draws_6 : pm_B e_X10_draws 6 (fun z => .ifCond .ne z) 12 9 := ⟨6, by decide +kernel, by decide, rfl⟩
theorem d_X10_draws_9 : pm_P e_X10_draws 9 7 11 := Or.inr <| Or.inl ⟨7, by decide +kernel, by decide +kernel, rfl⟩
theorem d_X10_draws_11 : pm_D e_X10_draws 11 1 (.ireturn) 12 := ⟨by decide +kernel, rfl⟩
theorem d_X10_draws_12 : pm_i e_X10_draws 12 .aload_n .aload 0 13 := Or.inl ⟨0, by decide +kernel, rfl, rfl⟩
theorem d_X10_draws_13 : pm_F e_X10_draws 13 .getfield (RX10, "kinds", "[I") 16 := ⟨17, by decide +kernel, rfl, Or.inl wm_742⟩
theorem d_X10_draws_16 : pm_i e_X10_draws 16 .iload_n .iload 1 17 := Or.inl ⟨1, by decide +kernel, rfl, rfl⟩
theorem d_X10_draws_17 : pm_D e_X10_draws 17 1 (.iaload) 18 := ⟨by decide +kernel, rfl⟩
theorem d_X10_draws_18 : pm_P e_X10_draws 18 2 19 := Or.inl ⟨2, by decide +kernel, by decide +kernel, rfl⟩
theorem d_X10_draws_19 : pm_B e_X10_draws 19 (fun z => .if_icmp .ne z) 62 22 := ⟨43, by decide +kernel, by decide, rfl⟩
theorem d_X10_draws_22 : pm_i e_X10_draws 22 .aload_n .aload 0 23 := Or.inl ⟨0, by decide +kernel, rfl, rfl⟩
theorem d_X10_draws_23 : pm_P e_X10_draws 23 8 25 := Or.inr <| Or.inl ⟨8, by decide +kernel, by decide +kernel, rfl⟩
theorem d_X10_draws_25 : pm_kV e_X10_draws 25 e_X10_under RX10 1 28 := ⟨177, by decide +kernel, rfl, fit_X10_draws_X10_under, wm_949, Or.inl ⟨wm_947, wm_33⟩⟩
theorem d_X10_draws_28 : pm_i e_X10_draws 28 .istore_n .istore 2 29 := Or.inl ⟨2, by decide +kernel, rfl, rfl⟩
theorem d_X10_draws_29 : pm_i e_X10_draws 29 .iload_n .iload 2 30 := Or.inl ⟨2, by decide +kernel, rfl, rfl⟩
theorem d_X10_draws_30 : pm_B e_X10_draws 30 (fun z => .ifCond .ne z) 38 33 := ⟨8, by decide +kernel, by decide, rfl⟩
theorem d_X10_draws_33 : pm_P e_X10_draws 33 6 35 := Or.inr <| Or.inl ⟨6, by decide +kernel, by decide +kernel, rfl⟩
theorem d_X10_draws_35 : pm_B e_X10_draws 35 (fun z => .goto z) 61 38 := ⟨26, by decide +kernel, by decide, rfl⟩
theorem d_X10_draws_38 : pm_i e_X10_draws 38 .iload_n .iload 2 39 := Or.inl ⟨2, by decide +kernel, rfl, rfl⟩
theorem d_X10_draws_39 : pm_P e_X10_draws 39 4 40 := Or.inl ⟨4, by decide +kernel, by decide +kernel, rfl⟩
theorem d_X10_draws_40 : pm_B e_X10_draws 40 (fun z => .if_icmp .ge z) 48 43 := ⟨8, by decide +kernel, by decide, rfl⟩
theorem d_X10_draws_43 : pm_P e_X10_draws 43 7 45 := Or.inr <| Or.inl ⟨7, by decide +kernel, by decide +kernel, rfl⟩
theorem d_X10_draws_45 : pm_B e_X10_draws 45 (fun z => .goto z) 61 48 := ⟨16, by decide +kernel, by decide, rfl⟩
theorem d_X10_draws_48 : pm_i e_X10_draws 48 .iload_n .iload 2 49 := Or.inl ⟨2, by decide +kernel, rfl, rfl⟩
theorem d_X10_draws_49 : pm_P e_X10_draws 49 7 51 := Or.inr <| Or.inl ⟨7, by decide +kernel, by decide +kernel, rfl⟩
theorem d_X10_draws_51 : pm_B e_X10_draws 51 (fun z => .if_icmp .ge z) 59 54 := ⟨8, by decide +kernel, by decide, rfl⟩
theorem d_X10_draws_54 : pm_P e_X10_draws 54 8 56 := Or.inr <| Or.inl ⟨8, by decide +kernel, by decide +kernel, rfl⟩
theorem d_X10_draws_56 : pm_B e_X10_draws 56 (fun z => .goto z) 61 59 := ⟨5, by decide +kernel, by decide, rfl⟩
theorem d_X10_draws_59 : pm_P e_X10_draws 59 9 61 := Or.inr <| Or.inl ⟨9, by decide +kernel, by decide +kernel, rfl⟩
theorem d_X10_draws_61 : pm_D e_X10_draws 61 1 (.ireturn) 62 := ⟨by decide +kernel, rfl⟩
theorem d_X10_draws_62 : pm_i e_X10_draws 62 .aload_n .aload 0 63 := Or.inl ⟨0, by decide +kernel, rfl, rfl⟩
theorem d_X10_draws_63 : pm_F e_X10_draws 63 .getfield (RX10, "sticks", "[I") 66 := ⟨20, by decide +kernel, rfl, Or.inl wm_743⟩
theorem d_X10_draws_66 : pm_i e_X10_draws 66 .iload_n .iload 1 67 := Or.inl ⟨1, by decide +kernel, rfl, rfl⟩
theorem d_X10_draws_67 : pm_D e_X10_draws 67 1 (.iaload) 68 := ⟨by decide +kernel, rfl⟩
theorem d_X10_draws_68 : pm_i e_X10_draws 68 .istore_n .istore 2 69 := Or.inl ⟨2, by decide +kernel, rfl, rfl⟩
theorem d_X10_draws_69 : pm_P e_X10_draws 69 0 70 := Or.inl ⟨0, by decide +kernel, by decide +kernel, rfl⟩
theorem d_X10_draws_70 : pm_i e_X10_draws 70 .istore_n .istore 3 71 := Or.inl ⟨3, by decide +kernel, rfl, rfl⟩
theorem d_X10_draws_71 : pm_i e_X10_draws 71 .iload_n .iload 3 72 := Or.inl ⟨3, by decide +kernel, rfl, rfl⟩
theorem d_X10_draws_72 : pm_P e_X10_draws 72 3 73 := Or.inl ⟨3, by decide +kernel, by decide +kernel, rfl⟩
theorem d_X10_draws_73 : pm_B e_X10_draws 73 (fun z => .if_icmp .ge z) 111 76 := ⟨38, by decide +kernel, by decide, rfl⟩
theorem d_X10_draws_76 : pm_i e_X10_draws 76 .iload_n .iload 2 77 := Or.inl ⟨2, by decide +kernel, rfl, rfl⟩
theorem d_X10_draws_77 : pm_P e_X10_draws 77 1 78 := Or.inl ⟨1, by decide +kernel, by decide +kernel, rfl⟩
theorem d_X10_draws_78 : pm_B e_X10_draws 78 (fun z => .if_icmp .le z) 111 81 := ⟨33, by decide +kernel, by decide, rfl⟩
theorem d_X10_draws_81 : pm_i e_X10_draws 81 .aload_n .aload 0 82 := Or.inl ⟨0, by decide +kernel, rfl, rfl⟩
theorem d_X10_draws_82 : pm_i e_X10_draws 82 .iload_n .iload 1 83 := Or.inl ⟨1, by decide +kernel, rfl, rfl⟩
theorem d_X10_draws_83 : pm_i e_X10_draws 83 .iload_n .iload 2 84 := Or.inl ⟨2, by decide +kernel, rfl, rfl⟩
theorem d_X10_draws_84 : pm_i e_X10_draws 84 .aload_n .aload 0 85 := Or.inl ⟨0, by decide +kernel, rfl, rfl⟩
theorem d_X10_draws_85 : pm_i e_X10_draws 85 .iload_n .iload 1 86 := Or.inl ⟨1, by decide +kernel, rfl, rfl⟩
theorem d_X10_draws_86 : pm_i e_X10_draws 86 .iload_n .iload 2 87 := Or.inl ⟨2, by decide +kernel, rfl, rfl⟩
theorem d_X10_draws_87 : pm_kV e_X10_draws 87 e_X10_first RX10 2 90 := ⟨128, by decide +kernel, rfl, fit_X10_draws_X10_first, wm_896, Or.inl ⟨wm_894, wm_26⟩⟩
theorem d_X10_draws_90 : pm_i e_X10_draws 90 .aload_n .aload 0 91 := Or.inl ⟨0, by decide +kernel, rfl, rfl⟩
theorem d_X10_draws_91 : pm_i e_X10_draws 91 .aload_n .aload 0 92 := Or.inl ⟨0, by decide +kernel, rfl, rfl⟩
theorem d_X10_draws_92 : pm_i e_X10_draws 92 .iload_n .iload 1 93 := Or.inl ⟨1, by decide +kernel, rfl, rfl⟩
theorem d_X10_draws_93 : pm_i e_X10_draws 93 .iload_n .iload 2 94 := Or.inl ⟨2, by decide +kernel, rfl, rfl⟩
theorem d_X10_draws_94 : pm_kV e_X10_draws 94 e_X10_places RX10 2 97 := ⟨139, by decide +kernel, rfl, fit_X10_draws_X10_places, wm_892, Or.inl ⟨wm_890, wm_25⟩⟩
theorem d_X10_draws_97 : pm_kV e_X10_draws 97 e_X10_under RX10 1 100 := ⟨177, by decide +kernel, rfl, fit_X10_draws_X10_under, wm_949, Or.inl ⟨wm_947, wm_33⟩⟩
theorem d_X10_draws_100 : pm_D e_X10_draws 100 1 (.iadd) 101 := ⟨by decide +kernel, rfl⟩
theorem d_X10_draws_101 : pm_kV e_X10_draws 101 e_X10_left RX10 3 104 := ⟨135, by decide +kernel, rfl, fit_X10_draws_X10_left, wm_885, Or.inl ⟨wm_883, wm_24⟩⟩
theorem d_X10_draws_104 : pm_i e_X10_draws 104 .istore_n .istore 2 105 := Or.inl ⟨2, by decide +kernel, rfl, rfl⟩
theorem d_X10_draws_105 : pm_I e_X10_draws 105 3 1 108 := ⟨1, by decide +kernel, by decide +kernel, rfl⟩
theorem d_X10_draws_108 : pm_B e_X10_draws 108 (fun z => .goto z) 71 111 := ⟨-37, by decide +kernel, by decide, rfl⟩
theorem d_X10_draws_111 : pm_i e_X10_draws 111 .iload_n .iload 2 112 := Or.inl ⟨2, by decide +kernel, rfl, rfl⟩
theorem d_X10_draws_112 : pm_i e_X10_draws 112 .aload_n .aload 0 113 := Or.inl ⟨0, by decide +kernel, rfl, rfl⟩
theorem d_X10_draws_113 : pm_F e_X10_draws 113 .getfield (RX10, "counts", "[I") 116 := ⟨23, by decide +kernel, rfl, Or.inl wm_744⟩
theorem d_X10_draws_116 : pm_i e_X10_draws 116 .iload_n .iload 1 117 := Or.inl ⟨1, by decide +kernel, rfl, rfl⟩
theorem d_X10_draws_117 : pm_D e_X10_draws 117 1 (.iaload) 118 := ⟨by decide +kernel, rfl⟩
theorem d_X10_draws_118 : pm_D e_X10_draws 118 1 (.idiv) 119 := ⟨by decide +kernel, rfl⟩
theorem d_X10_draws_119 : pm_D e_X10_draws 119 1 (.ireturn) 120 := ⟨by decide +kernel, rfl⟩
theorem d_X10_drawn_0 : pm_i e_X10_drawn 0 .aload_n .aload 0 1 := Or.inl ⟨0, by decide +kernel, rfl, rfl⟩
theorem d_X10_drawn_1 : pm_i e_X10_drawn 1 .iload_n .iload 1 2 := Or.inl ⟨1, by decide +kernel, rfl, rfl⟩
theorem d_X10_drawn_2 : pm_kV e_X10_drawn 2 e_X10_isCaster RX10 1 5 := ⟨118, by decide +kernel, rfl, fit_X10_drawn_X10_isCaster, wm_865, Or.inl ⟨wm_863, wm_20⟩⟩
theorem d_X10_drawn_5 : pm_B e_X10_drawn 5 (fun z => .ifCond .ne z) 10 8 := ⟨5, by decide +kernel, by decide, rfl⟩
theorem d_X10_drawn_8 : pm_P e_X10_drawn 8 (-1) 9 := Or.inl ⟨-1, by decide +kernel, by decide +kernel, rfl⟩
theorem d_X10_drawn_9 : pm_D e_X10_drawn 9 1 (.ireturn) 10 := ⟨by decide +kernel, rfl⟩
theorem d_X10_drawn_10 : pm_i e_X10_drawn 10 .aload_n .aload 0 11 := Or.inl ⟨0, by decide +kernel, rfl, rfl⟩
theorem d_X10_drawn_11 : pm_i e_X10_drawn 11 .lload_n .lload 2 12 := Or.inl ⟨2, by decide +kernel, rfl, rfl⟩
theorem d_X10_drawn_12 : pm_F e_X10_drawn 12 .putfield (RX10, "seed", "J") 15 := ⟨170, by decide +kernel, rfl, Or.inl wm_756⟩
theorem d_X10_drawn_15 : pm_i e_X10_drawn 15 .aload_n .aload 0 16 := Or.inl ⟨0, by decide +kernel, rfl, rfl⟩
theorem d_X10_drawn_16 : pm_i e_X10_drawn 16 .iload_n .iload 1 17 := Or.inl ⟨1, by decide +kernel, rfl, rfl⟩
theorem d_X10_drawn_17 : pm_kV e_X10_drawn 17 e_X10_draws RX10 1 20 := ⟨180, by decide +kernel, rfl, fit_X10_drawn_X10_draws, wm_945, Or.inl ⟨wm_943, wm_32⟩⟩
theorem d_X10_drawn_20 : pm_D e_X10_drawn 20 1 (.ireturn) 21 := ⟨by decide +kernel, rfl⟩
theorem d_X10_isFigure_0 : pm_i e_X10_isFigure 0 .iload_n .iload 0 1 := Or.inl ⟨0, by decide +kernel, rfl, rfl⟩
theorem d_X10_isFigure_1 : pm_P e_X10_isFigure 1 0 2 := Or.inl ⟨0, by decide +kernel, by decide +kernel, rfl⟩
theorem d_X10_isFigure_2 : pm_P e_X10_isFigure 2 7 4 := Or.inr <| Or.inl ⟨7, by decide +kernel, by decide +kernel, rfl⟩
theorem d_X10_isFigure_4 : pm_kS e_X10_isFigure 4 e_X10_in 3 7 := ⟨106, by decide +kernel, rfl, fit_X10_isFigure_X10_in, wm_853, Or.inl wm_852⟩
theorem d_X10_isFigure_7 : pm_D e_X10_isFigure 7 1 (.ireturn) 8 := ⟨by decide +kernel, rfl⟩
theorem d_X10_set_0 : pm_i e_X10_set 0 .iload_n .iload 1 1 := Or.inl ⟨1, by decide +kernel, rfl, rfl⟩
theorem d_X10_set_1 : pm_kS e_X10_set 1 e_X10_isFigure 1 4 := ⟨183, by decide +kernel, rfl, fit_X10_set_X10_isFigure, wm_958, Or.inl wm_957⟩
theorem d_X10_set_4 : pm_B e_X10_set 4 (fun z => .ifCond .eq z) 18 7 := ⟨14, by decide +kernel, by decide, rfl⟩
theorem d_X10_set_7 : pm_i e_X10_set 7 .iload_n .iload 3 8 := Or.inl ⟨3, by decide +kernel, rfl, rfl⟩
theorem d_X10_set_8 : pm_P e_X10_set 8 6 10 := Or.inr <| Or.inl ⟨6, by decide +kernel, by decide +kernel, rfl⟩
theorem d_X10_set_10 : pm_P e_X10_set 10 9 12 := Or.inr <| Or.inl ⟨9, by decide +kernel, by decide +kernel, rfl⟩
theorem d_X10_set_12 : pm_kS e_X10_set 12 e_X10_in 3 15 := ⟨106, by decide +kernel, rfl, fit_X10_set_X10_in, wm_853, Or.inl wm_852⟩
theorem d_X10_set_15 : pm_B e_X10_set 15 (fun z => .ifCond .ne z) 20 18 := ⟨5, by decide +kernel, by decide, rfl⟩
theorem d_X10_set_18 : pm_P e_X10_set 18 (-1) 19 := Or.inl ⟨-1, by decide +kernel, by decide +kernel, rfl⟩
theorem d_X10_set_19 : pm_D e_X10_set 19 1 (.ireturn) 20 := ⟨by decide +kernel, rfl⟩
theorem d_X10_set_20 : pm_i e_X10_set 20 .iload_n .iload 2 21 := Or.inl ⟨2, by decide +kernel, rfl, rfl⟩
theorem d_X10_set_21 : pm_P e_X10_set 21 0 22 := Or.inl ⟨0, by decide +kernel, by decide +kernel, rfl⟩
theorem d_X10_set_22 : pm_P e_X10_set 22 5 23 := Or.inl ⟨5, by decide +kernel, by decide +kernel, rfl⟩
theorem d_X10_set_23 : pm_kS e_X10_set 23 e_X10_in 3 26 := ⟨106, by decide +kernel, rfl, fit_X10_set_X10_in, wm_853, Or.inl wm_852⟩
theorem d_X10_set_26 : pm_B e_X10_set 26 (fun z => .ifCond .ne z) 35 29 := ⟨9, by decide +kernel, by decide, rfl⟩
theorem d_X10_set_29 : pm_i e_X10_set 29 .aload_n .aload 0 30 := Or.inl ⟨0, by decide +kernel, rfl, rfl⟩
theorem d_X10_set_30 : pm_P e_X10_set 30 2 31 := Or.inl ⟨2, by decide +kernel, by decide +kernel, rfl⟩
theorem d_X10_set_31 : pm_kV e_X10_set 31 e_X10_meets RX10 1 34 := ⟨131, by decide +kernel, rfl, fit_X10_set_X10_meets, wm_881, Or.inl ⟨wm_879, wm_23⟩⟩
theorem d_X10_set_34 : pm_D e_X10_set 34 1 (.ireturn) 35 := ⟨by decide +kernel, rfl⟩
theorem d_X10_set_35 : pm_i e_X10_set 35 .aload_n .aload 0 36 := Or.inl ⟨0, by decide +kernel, rfl, rfl⟩
theorem d_X10_set_36 : pm_F e_X10_set 36 .getfield (RX10, "figures", "[I") 39 := ⟨55, by decide +kernel, rfl, Or.inl wm_757⟩
theorem d_X10_set_39 : pm_P e_X10_set 39 6 41 := Or.inr <| Or.inl ⟨6, by decide +kernel, by decide +kernel, rfl⟩
theorem d_X10_set_41 : pm_i e_X10_set 41 .iload_n .iload 1 42 := Or.inl ⟨1, by decide +kernel, rfl, rfl⟩
theorem d_X10_set_42 : pm_D e_X10_set 42 1 (.imul) 43 := ⟨by decide +kernel, rfl⟩
theorem d_X10_set_43 : pm_i e_X10_set 43 .iload_n .iload 2 44 := Or.inl ⟨2, by decide +kernel, rfl, rfl⟩
theorem d_X10_set_44 : pm_D e_X10_set 44 1 (.iadd) 45 := ⟨by decide +kernel, rfl⟩
theorem d_X10_set_45 : pm_D e_X10_set 45 1 (.iaload) 46 := ⟨by decide +kernel, rfl⟩
theorem d_X10_set_46 : pm_i e_X10_set 46 .istore_n .istore 4 48 := Or.inr ⟨by decide +kernel, rfl⟩
theorem d_X10_set_48 : pm_i e_X10_set 48 .aload_n .aload 0 49 := Or.inl ⟨0, by decide +kernel, rfl, rfl⟩
theorem d_X10_set_49 : pm_F e_X10_set 49 .getfield (RX10, "figures", "[I") 52 := ⟨55, by decide +kernel, rfl, Or.inl wm_757⟩
theorem d_X10_set_52 : pm_P e_X10_set 52 6 54 := Or.inr <| Or.inl ⟨6, by decide +kernel, by decide +kernel, rfl⟩
theorem d_X10_set_54 : pm_i e_X10_set 54 .iload_n .iload 1 55 := Or.inl ⟨1, by decide +kernel, rfl, rfl⟩
theorem d_X10_set_55 : pm_D e_X10_set 55 1 (.imul) 56 := ⟨by decide +kernel, rfl⟩
theorem d_X10_set_56 : pm_i e_X10_set 56 .iload_n .iload 2 57 := Or.inl ⟨2, by decide +kernel, rfl, rfl⟩
theorem d_X10_set_57 : pm_D e_X10_set 57 1 (.iadd) 58 := ⟨by decide +kernel, rfl⟩
theorem d_X10_set_58 : pm_i e_X10_set 58 .iload_n .iload 3 59 := Or.inl ⟨3, by decide +kernel, rfl, rfl⟩
theorem d_X10_set_59 : pm_D e_X10_set 59 1 (.iastore) 60 := ⟨by decide +kernel, rfl⟩
theorem d_X10_set_60 : pm_i e_X10_set 60 .iload_n .iload 4 62 := Or.inr ⟨by decide +kernel, rfl⟩
theorem d_X10_set_62 : pm_D e_X10_set 62 1 (.ireturn) 63 := ⟨by decide +kernel, rfl⟩
theorem d_X10_get_0 : pm_i e_X10_get 0 .iload_n .iload 1 1 := Or.inl ⟨1, by decide +kernel, rfl, rfl⟩
theorem d_X10_get_1 : pm_kS e_X10_get 1 e_X10_isFigure 1 4 := ⟨183, by decide +kernel, rfl, fit_X10_get_X10_isFigure, wm_958, Or.inl wm_957⟩
theorem d_X10_get_4 : pm_B e_X10_get 4 (fun z => .ifCond .ne z) 11 7 := ⟨7, by decide +kernel, by decide, rfl⟩
theorem d_X10_get_7 : pm_P e_X10_get 7 (-1) 8 := Or.inl ⟨-1, by decide +kernel, by decide +kernel, rfl⟩
theorem d_X10_get_8 : pm_B e_X10_get 8 (fun z => .goto z) 39 11 := ⟨31, by decide +kernel, by decide, rfl⟩
theorem d_X10_get_11 : pm_i e_X10_get 11 .iload_n .iload 2 12 := Or.inl ⟨2, by decide +kernel, rfl, rfl⟩
theorem d_X10_get_12 : pm_P e_X10_get 12 0 13 := Or.inl ⟨0, by decide +kernel, by decide +kernel, rfl⟩
theorem d_X10_get_13 : pm_P e_X10_get 13 5 14 := Or.inl ⟨5, by decide +kernel, by decide +kernel, rfl⟩
theorem d_X10_get_14 : pm_kS e_X10_get 14 e_X10_in 3 17 := ⟨106, by decide +kernel, rfl, fit_X10_get_X10_in, wm_853, Or.inl wm_852⟩
theorem d_X10_get_17 : pm_B e_X10_get 17 (fun z => .ifCond .eq z) 34 20 := ⟨17, by decide +kernel, by decide, rfl⟩
theorem d_X10_get_20 : pm_i e_X10_get 20 .aload_n .aload 0 21 := Or.inl ⟨0, by decide +kernel, rfl, rfl⟩
theorem d_X10_get_21 : pm_F e_X10_get 21 .getfield (RX10, "figures", "[I") 24 := ⟨55, by decide +kernel, rfl, Or.inl wm_757⟩
theorem d_X10_get_24 : pm_P e_X10_get 24 6 26 := Or.inr <| Or.inl ⟨6, by decide +kernel, by decide +kernel, rfl⟩
theorem d_X10_get_26 : pm_i e_X10_get 26 .iload_n .iload 1 27 := Or.inl ⟨1, by decide +kernel, rfl, rfl⟩
theorem d_X10_get_27 : pm_D e_X10_get 27 1 (.imul) 28 := ⟨by decide +kernel, rfl⟩
theorem d_X10_get_28 : pm_i e_X10_get 28 .iload_n .iload 2 29 := Or.inl ⟨2, by decide +kernel, rfl, rfl⟩
theorem d_X10_get_29 : pm_D e_X10_get 29 1 (.iadd) 30 := ⟨by decide +kernel, rfl⟩
theorem d_X10_get_30 : pm_D e_X10_get 30 1 (.iaload) 31 := ⟨by decide +kernel, rfl⟩
theorem d_X10_get_31 : pm_B e_X10_get 31 (fun z => .goto z) 39 34 := ⟨8, by decide +kernel, by decide, rfl⟩
theorem d_X10_get_34 : pm_i e_X10_get 34 .aload_n .aload 0 35 := Or.inl ⟨0, by decide +kernel, rfl, rfl⟩
theorem d_X10_get_35 : pm_P e_X10_get 35 2 36 := Or.inl ⟨2, by decide +kernel, by decide +kernel, rfl⟩
theorem d_X10_get_36 : pm_kV e_X10_get 36 e_X10_meets RX10 1 39 := ⟨131, by decide +kernel, rfl, fit_X10_get_X10_meets, wm_881, Or.inl ⟨wm_879, wm_23⟩⟩
theorem d_X10_get_39 : pm_D e_X10_get 39 1 (.ireturn) 40 := ⟨by decide +kernel, rfl⟩
theorem d_X10_draw_0 : pm_i e_X10_draw 0 .iload_n .iload 1 1 := Or.inl ⟨1, by decide +kernel, rfl, rfl⟩
theorem d_X10_draw_1 : pm_kS e_X10_draw 1 e_X10_isFigure 1 4 := ⟨183, by decide +kernel, rfl, fit_X10_draw_X10_isFigure, wm_958, Or.inl wm_957⟩
theorem d_X10_draw_4 : pm_B e_X10_draw 4 (fun z => .ifCond .eq z) 15 7 := ⟨11, by decide +kernel, by decide, rfl⟩
theorem d_X10_draw_7 : pm_i e_X10_draw 7 .aload_n .aload 0 8 := Or.inl ⟨0, by decide +kernel, rfl, rfl⟩
theorem d_X10_draw_8 : pm_i e_X10_draw 8 .iload_n .iload 2 9 := Or.inl ⟨2, by decide +kernel, rfl, rfl⟩
theorem d_X10_draw_9 : pm_kV e_X10_draw 9 e_X10_isCaster RX10 1 12 := ⟨118, by decide +kernel, rfl, fit_X10_draw_X10_isCaster, wm_865, Or.inl ⟨wm_863, wm_20⟩⟩
theorem d_X10_draw_12 : pm_B e_X10_draw 12 (fun z => .ifCond .ne z) 17 15 := ⟨5, by decide +kernel, by decide, rfl⟩
theorem d_X10_draw_15 : pm_P e_X10_draw 15 (-1) 16 := Or.inl ⟨-1, by decide +kernel, by decide +kernel, rfl⟩
theorem d_X10_draw_16 : pm_D e_X10_draw 16 1 (.ireturn) 17 := ⟨by decide +kernel, rfl⟩
theorem d_X10_draw_17 : pm_i e_X10_draw 17 .aload_n .aload 0 18 := Or.inl ⟨0, by decide +kernel, rfl, rfl⟩
theorem d_X10_draw_18 : pm_i e_X10_draw 18 .lload_n .lload 3 19 := Or.inl ⟨3, by decide +kernel, rfl, rfl⟩
theorem d_X10_draw_19 : pm_F e_X10_draw 19 .putfield (RX10, "seed", "J") 22 := ⟨170, by decide +kernel, rfl, Or.inl wm_756⟩
theorem d_X10_draw_22 : pm_P e_X10_draw 22 1 23 := Or.inl ⟨1, by decide +kernel, by decide +kernel, rfl⟩
theorem d_X10_draw_23 : pm_i e_X10_draw 23 .istore_n .istore 5 25 := Or.inr ⟨by decide +kernel, rfl⟩
theorem d_X10_draw_25 : pm_P e_X10_draw 25 0 26 := Or.inl ⟨0, by decide +kernel, by decide +kernel, rfl⟩
theorem d_X10_draw_26 : pm_i e_X10_draw 26 .istore_n .istore 6 28 := Or.inr ⟨by decide +kernel, rfl⟩
theorem d_X10_draw_28 : pm_P e_X10_draw 28 0 29 := Or.inl ⟨0, by decide +kernel, by decide +kernel, rfl⟩
theorem d_X10_draw_29 : pm_i e_X10_draw 29 .istore_n .istore 7 31 := Or.inr ⟨by decide +kernel, rfl⟩
theorem d_X10_draw_31 : pm_i e_X10_draw 31 .iload_n .iload 7 33 := Or.inr ⟨by decide +kernel, rfl⟩
theorem d_X10_draw_33 : pm_P e_X10_draw 33 6 35 := Or.inr <| Or.inl ⟨6, by decide +kernel, by decide +kernel, rfl⟩
theorem d_X10_draw_35 : pm_B e_X10_draw 35 (fun z => .if_icmp .ge z) 119 38 := ⟨84, by decide +kernel, by decide, rfl⟩
theorem d_X10_draw_38 : pm_i e_X10_draw 38 .aload_n .aload 0 39 := Or.inl ⟨0, by decide +kernel, rfl, rfl⟩
theorem d_X10_draw_39 : pm_F e_X10_draw 39 .getfield (RX10, "six", "[I") 42 := ⟨58, by decide +kernel, rfl, Or.inl wm_758⟩
theorem d_X10_draw_42 : pm_i e_X10_draw 42 .iload_n .iload 7 44 := Or.inr ⟨by decide +kernel, rfl⟩
theorem d_X10_draw_44 : pm_i e_X10_draw 44 .aload_n .aload 0 45 := Or.inl ⟨0, by decide +kernel, rfl, rfl⟩
theorem d_X10_draw_45 : pm_i e_X10_draw 45 .iload_n .iload 2 46 := Or.inl ⟨2, by decide +kernel, rfl, rfl⟩
theorem d_X10_draw_46 : pm_kV e_X10_draw 46 e_X10_draws RX10 1 49 := ⟨180, by decide +kernel, rfl, fit_X10_draw_X10_draws, wm_945, Or.inl ⟨wm_943, wm_32⟩⟩
theorem d_X10_draw_49 : pm_D e_X10_draw 49 1 (.iastore) 50 := ⟨by decide +kernel, rfl⟩
theorem d_X10_draw_50 : pm_i e_X10_draw 50 .iload_n .iload 5 52 := Or.inr ⟨by decide +kernel, rfl⟩
theorem d_X10_draw_52 : pm_B e_X10_draw 52 (fun z => .ifCond .eq z) 76 55 := ⟨24, by decide +kernel, by decide, rfl⟩
theorem d_X10_draw_55 : pm_i e_X10_draw 55 .aload_n .aload 0 56 := Or.inl ⟨0, by decide +kernel, rfl, rfl⟩
theorem d_X10_draw_56 : pm_F e_X10_draw 56 .getfield (RX10, "six", "[I") 59 := ⟨58, by decide +kernel, rfl, Or.inl wm_758⟩
theorem d_X10_draw_59 : pm_i e_X10_draw 59 .iload_n .iload 7 61 := Or.inr ⟨by decide +kernel, rfl⟩
theorem d_X10_draw_61 : pm_D e_X10_draw 61 1 (.iaload) 62 := ⟨by decide +kernel, rfl⟩
theorem d_X10_draw_62 : pm_P e_X10_draw 62 6 64 := Or.inr <| Or.inl ⟨6, by decide +kernel, by decide +kernel, rfl⟩
theorem d_X10_draw_64 : pm_P e_X10_draw 64 9 66 := Or.inr <| Or.inl ⟨9, by decide +kernel, by decide +kernel, rfl⟩
theorem d_X10_draw_66 : pm_kS e_X10_draw 66 e_X10_in 3 69 := ⟨106, by decide +kernel, rfl, fit_X10_draw_X10_in, wm_853, Or.inl wm_852⟩
theorem d_X10_draw_69 : pm_B e_X10_draw 69 (fun z => .ifCond .eq z) 76 72 := ⟨7, by decide +kernel, by decide, rfl⟩
theorem d_X10_draw_72 : pm_P e_X10_draw 72 1 73 := Or.inl ⟨1, by decide +kernel, by decide +kernel, rfl⟩
theorem d_X10_draw_73 : pm_B e_X10_draw 73 (fun z => .goto z) 77 76 := ⟨4, by decide +kernel, by decide, rfl⟩
theorem d_X10_draw_76 : pm_P e_X10_draw 76 0 77 := Or.inl ⟨0, by decide +kernel, by decide +kernel, rfl⟩
theorem d_X10_draw_77 : pm_i e_X10_draw 77 .istore_n .istore 5 79 := Or.inr ⟨by decide +kernel, rfl⟩
theorem d_X10_draw_79 : pm_i e_X10_draw 79 .iload_n .iload 6 81 := Or.inr ⟨by decide +kernel, rfl⟩
theorem d_X10_draw_81 : pm_i e_X10_draw 81 .aload_n .aload 0 82 := Or.inl ⟨0, by decide +kernel, rfl, rfl⟩
theorem d_X10_draw_82 : pm_F e_X10_draw 82 .getfield (RX10, "six", "[I") 85 := ⟨58, by decide +kernel, rfl, Or.inl wm_758⟩
theorem d_X10_draw_85 : pm_i e_X10_draw 85 .iload_n .iload 7 87 := Or.inr ⟨by decide +kernel, rfl⟩
theorem d_X10_draw_87 : pm_D e_X10_draw 87 1 (.iaload) 88 := ⟨by decide +kernel, rfl⟩
theorem d_X10_draw_88 : pm_P e_X10_draw 88 6 90 := Or.inr <| Or.inl ⟨6, by decide +kernel, by decide +kernel, rfl⟩
theorem d_X10_draw_90 : pm_B e_X10_draw 90 (fun z => .if_icmp .eq z) 105 93 := ⟨15, by decide +kernel, by decide, rfl⟩
theorem d_X10_draw_93 : pm_i e_X10_draw 93 .aload_n .aload 0 94 := Or.inl ⟨0, by decide +kernel, rfl, rfl⟩
theorem d_X10_draw_94 : pm_F e_X10_draw 94 .getfield (RX10, "six", "[I") 97 := ⟨58, by decide +kernel, rfl, Or.inl wm_758⟩
theorem d_X10_draw_97 : pm_i e_X10_draw 97 .iload_n .iload 7 99 := Or.inr ⟨by decide +kernel, rfl⟩
theorem d_X10_draw_99 : pm_D e_X10_draw 99 1 (.iaload) 100 := ⟨by decide +kernel, rfl⟩
theorem d_X10_draw_100 : pm_P e_X10_draw 100 9 102 := Or.inr <| Or.inl ⟨9, by decide +kernel, by decide +kernel, rfl⟩
theorem d_X10_draw_102 : pm_B e_X10_draw 102 (fun z => .if_icmp .ne z) 109 105 := ⟨7, by decide +kernel, by decide, rfl⟩
theorem d_X10_draw_105 : pm_P e_X10_draw 105 1 106 := Or.inl ⟨1, by decide +kernel, by decide +kernel, rfl⟩
theorem d_X10_draw_106 : pm_B e_X10_draw 106 (fun z => .goto z) 110 109 := ⟨4, by decide +kernel, by decide, rfl⟩
theorem d_X10_draw_109 : pm_P e_X10_draw 109 0 110 := Or.inl ⟨0, by decide +kernel, by decide +kernel, rfl⟩
theorem d_X10_draw_110 : pm_D e_X10_draw 110 1 (.iadd) 111 := ⟨by decide +kernel, rfl⟩
theorem d_X10_draw_111 : pm_i e_X10_draw 111 .istore_n .istore 6 113 := Or.inr ⟨by decide +kernel, rfl⟩
theorem d_X10_draw_113 : pm_I e_X10_draw 113 7 1 116 := ⟨1, by decide +kernel, by decide +kernel, rfl⟩
theorem d_X10_draw_116 : pm_B e_X10_draw 116 (fun z => .goto z) 31 119 := ⟨-85, by decide +kernel, by decide, rfl⟩
theorem d_X10_draw_119 : pm_P e_X10_draw 119 0 120 := Or.inl ⟨0, by decide +kernel, by decide +kernel, rfl⟩
theorem d_X10_draw_120 : pm_i e_X10_draw 120 .istore_n .istore 7 122 := Or.inr ⟨by decide +kernel, rfl⟩
theorem d_X10_draw_122 : pm_i e_X10_draw 122 .iload_n .iload 7 124 := Or.inr ⟨by decide +kernel, rfl⟩
theorem d_X10_draw_124 : pm_P e_X10_draw 124 6 126 := Or.inr <| Or.inl ⟨6, by decide +kernel, by decide +kernel, rfl⟩
theorem d_X10_draw_126 : pm_B e_X10_draw 126 (fun z => .if_icmp .ge z) 159 129 := ⟨33, by decide +kernel, by decide, rfl⟩
theorem d_X10_draw_129 : pm_i e_X10_draw 129 .iload_n .iload 5 131 := Or.inr ⟨by decide +kernel, rfl⟩
theorem d_X10_draw_131 : pm_B e_X10_draw 131 (fun z => .ifCond .eq z) 159 134 := ⟨28, by decide +kernel, by decide, rfl⟩
theorem d_X10_draw_134 : pm_i e_X10_draw 134 .aload_n .aload 0 135 := Or.inl ⟨0, by decide +kernel, rfl, rfl⟩
theorem d_X10_draw_135 : pm_F e_X10_draw 135 .getfield (RX10, "figures", "[I") 138 := ⟨55, by decide +kernel, rfl, Or.inl wm_757⟩
theorem d_X10_draw_138 : pm_P e_X10_draw 138 6 140 := Or.inr <| Or.inl ⟨6, by decide +kernel, by decide +kernel, rfl⟩
theorem d_X10_draw_140 : pm_i e_X10_draw 140 .iload_n .iload 1 141 := Or.inl ⟨1, by decide +kernel, rfl, rfl⟩
theorem d_X10_draw_141 : pm_D e_X10_draw 141 1 (.imul) 142 := ⟨by decide +kernel, rfl⟩
theorem d_X10_draw_142 : pm_i e_X10_draw 142 .iload_n .iload 7 144 := Or.inr ⟨by decide +kernel, rfl⟩
theorem d_X10_draw_144 : pm_D e_X10_draw 144 1 (.iadd) 145 := ⟨by decide +kernel, rfl⟩
theorem d_X10_draw_145 : pm_i e_X10_draw 145 .aload_n .aload 0 146 := Or.inl ⟨0, by decide +kernel, rfl, rfl⟩
theorem d_X10_draw_146 : pm_F e_X10_draw 146 .getfield (RX10, "six", "[I") 149 := ⟨58, by decide +kernel, rfl, Or.inl wm_758⟩
theorem d_X10_draw_149 : pm_i e_X10_draw 149 .iload_n .iload 7 151 := Or.inr ⟨by decide +kernel, rfl⟩
theorem d_X10_draw_151 : pm_D e_X10_draw 151 1 (.iaload) 152 := ⟨by decide +kernel, rfl⟩
theorem d_X10_draw_152 : pm_D e_X10_draw 152 1 (.iastore) 153 := ⟨by decide +kernel, rfl⟩
theorem d_X10_draw_153 : pm_I e_X10_draw 153 7 1 156 := ⟨1, by decide +kernel, by decide +kernel, rfl⟩
theorem d_X10_draw_156 : pm_B e_X10_draw 156 (fun z => .goto z) 122 159 := ⟨-34, by decide +kernel, by decide, rfl⟩
theorem d_X10_draw_159 : pm_i e_X10_draw 159 .iload_n .iload 5 161 := Or.inr ⟨by decide +kernel, rfl⟩
theorem d_X10_draw_161 : pm_B e_X10_draw 161 (fun z => .ifCond .eq z) 169 164 := ⟨8, by decide +kernel, by decide, rfl⟩
theorem d_X10_draw_164 : pm_i e_X10_draw 164 .iload_n .iload 6 166 := Or.inr ⟨by decide +kernel, rfl⟩
theorem d_X10_draw_166 : pm_B e_X10_draw 166 (fun z => .goto z) 171 169 := ⟨5, by decide +kernel, by decide, rfl⟩
theorem d_X10_draw_169 : pm_P e_X10_draw 169 (-4) 171 := Or.inr <| Or.inl ⟨-4, by decide +kernel, by decide +kernel, rfl⟩
theorem d_X10_draw_171 : pm_D e_X10_draw 171 1 (.ireturn) 172 := ⟨by decide +kernel, rfl⟩
theorem d_X10_numberOf_0 : pm_P e_X10_numberOf 0 0 1 := Or.inl ⟨0, by decide +kernel, by decide +kernel, rfl⟩
theorem d_X10_numberOf_1 : pm_i e_X10_numberOf 1 .istore_n .istore 2 2 := Or.inl ⟨2, by decide +kernel, rfl, rfl⟩
theorem d_X10_numberOf_2 : pm_P e_X10_numberOf 2 0 3 := Or.inl ⟨0, by decide +kernel, by decide +kernel, rfl⟩
theorem d_X10_numberOf_3 : pm_i e_X10_numberOf 3 .istore_n .istore 3 4 := Or.inl ⟨3, by decide +kernel, rfl, rfl⟩
theorem d_X10_numberOf_4 : pm_i e_X10_numberOf 4 .iload_n .iload 3 5 := Or.inl ⟨3, by decide +kernel, rfl, rfl⟩
theorem d_X10_numberOf_5 : pm_P e_X10_numberOf 5 6 7 := Or.inr <| Or.inl ⟨6, by decide +kernel, by decide +kernel, rfl⟩
theorem d_X10_numberOf_7 : pm_B e_X10_numberOf 7 (fun z => .if_icmp .ge z) 34 10 := ⟨27, by decide +kernel, by decide, rfl⟩
theorem d_X10_numberOf_10 : pm_i e_X10_numberOf 10 .iload_n .iload 2 11 := Or.inl ⟨2, by decide +kernel, rfl, rfl⟩
theorem d_X10_numberOf_11 : pm_i e_X10_numberOf 11 .aload_n .aload 0 12 := Or.inl ⟨0, by decide +kernel, rfl, rfl⟩
theorem d_X10_numberOf_12 : pm_F e_X10_numberOf 12 .getfield (RX10, "figures", "[I") 15 := ⟨55, by decide +kernel, rfl, Or.inl wm_757⟩
theorem d_X10_numberOf_15 : pm_P e_X10_numberOf 15 6 17 := Or.inr <| Or.inl ⟨6, by decide +kernel, by decide +kernel, rfl⟩
theorem d_X10_numberOf_17 : pm_i e_X10_numberOf 17 .iload_n .iload 1 18 := Or.inl ⟨1, by decide +kernel, rfl, rfl⟩
theorem d_X10_numberOf_18 : pm_D e_X10_numberOf 18 1 (.imul) 19 := ⟨by decide +kernel, rfl⟩
theorem d_X10_numberOf_19 : pm_i e_X10_numberOf 19 .iload_n .iload 3 20 := Or.inl ⟨3, by decide +kernel, rfl, rfl⟩
theorem d_X10_numberOf_20 : pm_D e_X10_numberOf 20 1 (.iadd) 21 := ⟨by decide +kernel, rfl⟩
theorem d_X10_numberOf_21 : pm_D e_X10_numberOf 21 1 (.iaload) 22 := ⟨by decide +kernel, rfl⟩
theorem d_X10_numberOf_22 : pm_P e_X10_numberOf 22 2 23 := Or.inl ⟨2, by decide +kernel, by decide +kernel, rfl⟩
theorem d_X10_numberOf_23 : pm_D e_X10_numberOf 23 1 (.irem) 24 := ⟨by decide +kernel, rfl⟩
theorem d_X10_numberOf_24 : pm_i e_X10_numberOf 24 .iload_n .iload 3 25 := Or.inl ⟨3, by decide +kernel, rfl, rfl⟩
theorem d_X10_numberOf_25 : pm_D e_X10_numberOf 25 1 (.ishl) 26 := ⟨by decide +kernel, rfl⟩
theorem d_X10_numberOf_26 : pm_D e_X10_numberOf 26 1 (.ior) 27 := ⟨by decide +kernel, rfl⟩
theorem d_X10_numberOf_27 : pm_i e_X10_numberOf 27 .istore_n .istore 2 28 := Or.inl ⟨2, by decide +kernel, rfl, rfl⟩
theorem d_X10_numberOf_28 : pm_I e_X10_numberOf 28 3 1 31 := ⟨1, by decide +kernel, by decide +kernel, rfl⟩
theorem d_X10_numberOf_31 : pm_B e_X10_numberOf 31 (fun z => .goto z) 4 34 := ⟨-27, by decide +kernel, by decide, rfl⟩
theorem d_X10_numberOf_34 : pm_i e_X10_numberOf 34 .iload_n .iload 2 35 := Or.inl ⟨2, by decide +kernel, rfl, rfl⟩
theorem d_X10_numberOf_35 : pm_D e_X10_numberOf 35 1 (.ireturn) 36 := ⟨by decide +kernel, rfl⟩
theorem d_X10_number_0 : pm_i e_X10_number 0 .iload_n .iload 1 1 := Or.inl ⟨1, by decide +kernel, rfl, rfl⟩
theorem d_X10_number_1 : pm_kS e_X10_number 1 e_X10_isFigure 1 4 := ⟨183, by decide +kernel, rfl, fit_X10_number_X10_isFigure, wm_958, Or.inl wm_957⟩
theorem d_X10_number_4 : pm_B e_X10_number 4 (fun z => .ifCond .eq z) 15 7 := ⟨11, by decide +kernel, by decide, rfl⟩
theorem d_X10_number_7 : pm_i e_X10_number 7 .aload_n .aload 0 8 := Or.inl ⟨0, by decide +kernel, rfl, rfl⟩
theorem d_X10_number_8 : pm_i e_X10_number 8 .iload_n .iload 1 9 := Or.inl ⟨1, by decide +kernel, rfl, rfl⟩
theorem d_X10_number_9 : pm_kV e_X10_number 9 e_X10_numberOf RX10 1 12 := ⟨186, by decide +kernel, rfl, fit_X10_number_X10_numberOf, wm_974, Or.inl ⟨wm_972, wm_34⟩⟩
theorem d_X10_number_12 : pm_B e_X10_number 12 (fun z => .goto z) 16 15 := ⟨4, by decide +kernel, by decide, rfl⟩
theorem d_X10_number_15 : pm_P e_X10_number 15 (-1) 16 := Or.inl ⟨-1, by decide +kernel, by decide +kernel, rfl⟩
theorem d_X10_number_16 : pm_D e_X10_number 16 1 (.ireturn) 17 := ⟨by decide +kernel, rfl⟩
theorem d_X10_nestedAt_0 : pm_i e_X10_nestedAt 0 .iload_n .iload 0 1 := Or.inl ⟨0, by decide +kernel, rfl, rfl⟩
theorem d_X10_nestedAt_1 : pm_P e_X10_nestedAt 1 3 2 := Or.inl ⟨3, by decide +kernel, by decide +kernel, rfl⟩
theorem d_X10_nestedAt_2 : pm_B e_X10_nestedAt 2 (fun z => .if_icmp .ge z) 11 5 := ⟨9, by decide +kernel, by decide, rfl⟩
theorem d_X10_nestedAt_5 : pm_i e_X10_nestedAt 5 .iload_n .iload 0 6 := Or.inl ⟨0, by decide +kernel, rfl, rfl⟩
theorem d_X10_nestedAt_6 : pm_P e_X10_nestedAt 6 1 7 := Or.inl ⟨1, by decide +kernel, by decide +kernel, rfl⟩
theorem d_X10_nestedAt_7 : pm_D e_X10_nestedAt 7 1 (.iadd) 8 := ⟨by decide +kernel, rfl⟩
theorem d_X10_nestedAt_8 : pm_B e_X10_nestedAt 8 (fun z => .goto z) 14 11 := ⟨6, by decide +kernel, by decide, rfl⟩
theorem d_X10_nestedAt_11 : pm_i e_X10_nestedAt 11 .iload_n .iload 0 12 := Or.inl ⟨0, by decide +kernel, rfl, rfl⟩
theorem d_X10_nestedAt_12 : pm_P e_X10_nestedAt 12 1 13 := Or.inl ⟨1, by decide +kernel, by decide +kernel, rfl⟩
theorem d_X10_nestedAt_13 : pm_D e_X10_nestedAt 13 1 (.isub) 14 := ⟨by decide +kernel, rfl⟩
theorem d_X10_nestedAt_14 : pm_D e_X10_nestedAt 14 1 (.ireturn) 15 := ⟨by decide +kernel, rfl⟩
theorem d_X10_act_0 : pm_i e_X10_act 0 .iload_n .iload 1 1 := Or.inl ⟨1, by decide +kernel, rfl, rfl⟩
theorem d_X10_act_1 : pm_kS e_X10_act 1 e_X10_isFigure 1 4 := ⟨183, by decide +kernel, rfl, fit_X10_act_X10_isFigure, wm_958, Or.inl wm_957⟩
theorem d_X10_act_4 : pm_B e_X10_act 4 (fun z => .ifCond .eq z) 23 7 := ⟨19, by decide +kernel, by decide, rfl⟩
theorem d_X10_act_7 : pm_i e_X10_act 7 .iload_n .iload 3 8 := Or.inl ⟨3, by decide +kernel, rfl, rfl⟩
theorem d_X10_act_8 : pm_kS e_X10_act 8 e_X10_isFigure 1 11 := ⟨183, by decide +kernel, rfl, fit_X10_act_X10_isFigure, wm_958, Or.inl wm_957⟩
theorem d_X10_act_11 : pm_B e_X10_act 11 (fun z => .ifCond .eq z) 23 14 := ⟨12, by decide +kernel, by decide, rfl⟩
theorem d_X10_act_14 : pm_i e_X10_act 14 .iload_n .iload 2 15 := Or.inl ⟨2, by decide +kernel, rfl, rfl⟩
theorem d_X10_act_15 : pm_P e_X10_act 15 0 16 := Or.inl ⟨0, by decide +kernel, by decide +kernel, rfl⟩
theorem d_X10_act_16 : pm_P e_X10_act 16 3 17 := Or.inl ⟨3, by decide +kernel, by decide +kernel, rfl⟩
theorem d_X10_act_17 : pm_kS e_X10_act 17 e_X10_in 3 20 := ⟨106, by decide +kernel, rfl, fit_X10_act_X10_in, wm_853, Or.inl wm_852⟩
theorem d_X10_act_20 : pm_B e_X10_act 20 (fun z => .ifCond .ne z) 25 23 := ⟨5, by decide +kernel, by decide, rfl⟩
theorem d_X10_act_23 : pm_P e_X10_act 23 (-1) 24 := Or.inl ⟨-1, by decide +kernel, by decide +kernel, rfl⟩
theorem d_X10_act_24 : pm_D e_X10_act 24 1 (.ireturn) 25 := ⟨by decide +kernel, rfl⟩
theorem d_X10_act_25 : pm_P e_X10_act 25 0 26 := Or.inl ⟨0, by decide +kernel, by decide +kernel, rfl⟩
theorem d_X10_act_26 : pm_i e_X10_act 26 .istore_n .istore 4 28 := Or.inr ⟨by decide +kernel, rfl⟩
theorem d_X10_act_28 : pm_i e_X10_act 28 .iload_n .iload 4 30 := Or.inr ⟨by decide +kernel, rfl⟩
theorem d_X10_act_30 : pm_P e_X10_act 30 6 32 := Or.inr <| Or.inl ⟨6, by decide +kernel, by decide +kernel, rfl⟩
theorem d_X10_act_32 : pm_B e_X10_act 32 (fun z => .if_icmp .ge z) 135 35 := ⟨103, by decide +kernel, by decide, rfl⟩
theorem d_X10_act_35 : pm_i e_X10_act 35 .aload_n .aload 0 36 := Or.inl ⟨0, by decide +kernel, rfl, rfl⟩
theorem d_X10_act_36 : pm_F e_X10_act 36 .getfield (RX10, "figures", "[I") 39 := ⟨55, by decide +kernel, rfl, Or.inl wm_757⟩
theorem d_X10_act_39 : pm_P e_X10_act 39 6 41 := Or.inr <| Or.inl ⟨6, by decide +kernel, by decide +kernel, rfl⟩
theorem d_X10_act_41 : pm_i e_X10_act 41 .iload_n .iload 1 42 := Or.inl ⟨1, by decide +kernel, rfl, rfl⟩
theorem d_X10_act_42 : pm_D e_X10_act 42 1 (.imul) 43 := ⟨by decide +kernel, rfl⟩
theorem d_X10_act_43 : pm_i e_X10_act 43 .iload_n .iload 2 44 := Or.inl ⟨2, by decide +kernel, rfl, rfl⟩
theorem d_X10_act_44 : pm_P e_X10_act 44 1 45 := Or.inl ⟨1, by decide +kernel, by decide +kernel, rfl⟩
theorem d_X10_act_45 : pm_B e_X10_act 45 (fun z => .if_icmp .ne z) 55 48 := ⟨10, by decide +kernel, by decide, rfl⟩
theorem d_X10_act_48 : pm_P e_X10_act 48 5 49 := Or.inl ⟨5, by decide +kernel, by decide +kernel, rfl⟩
theorem d_X10_act_49 : pm_i e_X10_act 49 .iload_n .iload 4 51 := Or.inr ⟨by decide +kernel, rfl⟩
theorem d_X10_act_51 : pm_D e_X10_act 51 1 (.isub) 52 := ⟨by decide +kernel, rfl⟩
theorem d_X10_act_52 : pm_B e_X10_act 52 (fun z => .goto z) 70 55 := ⟨18, by decide +kernel, by decide, rfl⟩
theorem d_X10_act_55 : pm_i e_X10_act 55 .iload_n .iload 2 56 := Or.inl ⟨2, by decide +kernel, rfl, rfl⟩
theorem d_X10_act_56 : pm_P e_X10_act 56 3 57 := Or.inl ⟨3, by decide +kernel, by decide +kernel, rfl⟩
theorem d_X10_act_57 : pm_B e_X10_act 57 (fun z => .if_icmp .ne z) 68 60 := ⟨11, by decide +kernel, by decide, rfl⟩
theorem d_X10_act_60 : pm_i e_X10_act 60 .iload_n .iload 4 62 := Or.inr ⟨by decide +kernel, rfl⟩
theorem d_X10_act_62 : pm_kS e_X10_act 62 e_X10_nestedAt 1 65 := ⟨189, by decide +kernel, rfl, fit_X10_act_X10_nestedAt, wm_981, Or.inl wm_980⟩
theorem d_X10_act_65 : pm_B e_X10_act 65 (fun z => .goto z) 70 68 := ⟨5, by decide +kernel, by decide, rfl⟩
theorem d_X10_act_68 : pm_i e_X10_act 68 .iload_n .iload 4 70 := Or.inr ⟨by decide +kernel, rfl⟩
theorem d_X10_act_70 : pm_D e_X10_act 70 1 (.iadd) 71 := ⟨by decide +kernel, rfl⟩
theorem d_X10_act_71 : pm_D e_X10_act 71 1 (.iaload) 72 := ⟨by decide +kernel, rfl⟩
theorem d_X10_act_72 : pm_i e_X10_act 72 .istore_n .istore 5 74 := Or.inr ⟨by decide +kernel, rfl⟩
theorem d_X10_act_74 : pm_i e_X10_act 74 .aload_n .aload 0 75 := Or.inl ⟨0, by decide +kernel, rfl, rfl⟩
theorem d_X10_act_75 : pm_F e_X10_act 75 .getfield (RX10, "six", "[I") 78 := ⟨58, by decide +kernel, rfl, Or.inl wm_758⟩
theorem d_X10_act_78 : pm_i e_X10_act 78 .iload_n .iload 4 80 := Or.inr ⟨by decide +kernel, rfl⟩
theorem d_X10_act_80 : pm_i e_X10_act 80 .iload_n .iload 2 81 := Or.inl ⟨2, by decide +kernel, rfl, rfl⟩
theorem d_X10_act_81 : pm_B e_X10_act 81 (fun z => .ifCond .ne z) 113 84 := ⟨32, by decide +kernel, by decide, rfl⟩
theorem d_X10_act_84 : pm_i e_X10_act 84 .iload_n .iload 5 86 := Or.inr ⟨by decide +kernel, rfl⟩
theorem d_X10_act_86 : pm_P e_X10_act 86 6 88 := Or.inr <| Or.inl ⟨6, by decide +kernel, by decide +kernel, rfl⟩
theorem d_X10_act_88 : pm_B e_X10_act 88 (fun z => .if_icmp .ne z) 96 91 := ⟨8, by decide +kernel, by decide, rfl⟩
theorem d_X10_act_91 : pm_P e_X10_act 91 7 93 := Or.inr <| Or.inl ⟨7, by decide +kernel, by decide +kernel, rfl⟩
theorem d_X10_act_93 : pm_B e_X10_act 93 (fun z => .goto z) 128 96 := ⟨35, by decide +kernel, by decide, rfl⟩
theorem d_X10_act_96 : pm_i e_X10_act 96 .iload_n .iload 5 98 := Or.inr ⟨by decide +kernel, rfl⟩
theorem d_X10_act_98 : pm_P e_X10_act 98 9 100 := Or.inr <| Or.inl ⟨9, by decide +kernel, by decide +kernel, rfl⟩
theorem d_X10_act_100 : pm_B e_X10_act 100 (fun z => .if_icmp .ne z) 108 103 := ⟨8, by decide +kernel, by decide, rfl⟩
theorem d_X10_act_103 : pm_P e_X10_act 103 8 105 := Or.inr <| Or.inl ⟨8, by decide +kernel, by decide +kernel, rfl⟩
theorem d_X10_act_105 : pm_B e_X10_act 105 (fun z => .goto z) 128 108 := ⟨23, by decide +kernel, by decide, rfl⟩
theorem d_X10_act_108 : pm_i e_X10_act 108 .iload_n .iload 5 110 := Or.inr ⟨by decide +kernel, rfl⟩
theorem d_X10_act_110 : pm_B e_X10_act 110 (fun z => .goto z) 128 113 := ⟨18, by decide +kernel, by decide, rfl⟩
theorem d_X10_act_113 : pm_i e_X10_act 113 .iload_n .iload 2 114 := Or.inl ⟨2, by decide +kernel, rfl, rfl⟩
theorem d_X10_act_114 : pm_P e_X10_act 114 2 115 := Or.inl ⟨2, by decide +kernel, by decide +kernel, rfl⟩
theorem d_X10_act_115 : pm_B e_X10_act 115 (fun z => .if_icmp .ne z) 126 118 := ⟨11, by decide +kernel, by decide, rfl⟩
theorem d_X10_act_118 : pm_P e_X10_act 118 15 120 := Or.inr <| Or.inl ⟨15, by decide +kernel, by decide +kernel, rfl⟩
theorem d_X10_act_120 : pm_i e_X10_act 120 .iload_n .iload 5 122 := Or.inr ⟨by decide +kernel, rfl⟩
theorem d_X10_act_122 : pm_D e_X10_act 122 1 (.isub) 123 := ⟨by decide +kernel, rfl⟩
theorem d_X10_act_123 : pm_B e_X10_act 123 (fun z => .goto z) 128 126 := ⟨5, by decide +kernel, by decide, rfl⟩
theorem d_X10_act_126 : pm_i e_X10_act 126 .iload_n .iload 5 128 := Or.inr ⟨by decide +kernel, rfl⟩
theorem d_X10_act_128 : pm_D e_X10_act 128 1 (.iastore) 129 := ⟨by decide +kernel, rfl⟩
theorem d_X10_act_129 : pm_I e_X10_act 129 4 1 132 := ⟨1, by decide +kernel, by decide +kernel, rfl⟩
theorem d_X10_act_132 : pm_B e_X10_act 132 (fun z => .goto z) 28 135 := ⟨-104, by decide +kernel, by decide, rfl⟩
theorem d_X10_act_135 : pm_P e_X10_act 135 0 136 := Or.inl ⟨0, by decide +kernel, by decide +kernel, rfl⟩
theorem d_X10_act_136 : pm_i e_X10_act 136 .istore_n .istore 4 138 := Or.inr ⟨by decide +kernel, rfl⟩
theorem d_X10_act_138 : pm_i e_X10_act 138 .iload_n .iload 4 140 := Or.inr ⟨by decide +kernel, rfl⟩
theorem d_X10_act_140 : pm_P e_X10_act 140 6 142 := Or.inr <| Or.inl ⟨6, by decide +kernel, by decide +kernel, rfl⟩
theorem d_X10_act_142 : pm_B e_X10_act 142 (fun z => .if_icmp .ge z) 170 145 := ⟨28, by decide +kernel, by decide, rfl⟩
theorem d_X10_act_145 : pm_i e_X10_act 145 .aload_n .aload 0 146 := Or.inl ⟨0, by decide +kernel, rfl, rfl⟩
theorem d_X10_act_146 : pm_F e_X10_act 146 .getfield (RX10, "figures", "[I") 149 := ⟨55, by decide +kernel, rfl, Or.inl wm_757⟩
theorem d_X10_act_149 : pm_P e_X10_act 149 6 151 := Or.inr <| Or.inl ⟨6, by decide +kernel, by decide +kernel, rfl⟩
theorem d_X10_act_151 : pm_i e_X10_act 151 .iload_n .iload 3 152 := Or.inl ⟨3, by decide +kernel, rfl, rfl⟩
theorem d_X10_act_152 : pm_D e_X10_act 152 1 (.imul) 153 := ⟨by decide +kernel, rfl⟩
theorem d_X10_act_153 : pm_i e_X10_act 153 .iload_n .iload 4 155 := Or.inr ⟨by decide +kernel, rfl⟩
theorem d_X10_act_155 : pm_D e_X10_act 155 1 (.iadd) 156 := ⟨by decide +kernel, rfl⟩
theorem d_X10_act_156 : pm_i e_X10_act 156 .aload_n .aload 0 157 := Or.inl ⟨0, by decide +kernel, rfl, rfl⟩
theorem d_X10_act_157 : pm_F e_X10_act 157 .getfield (RX10, "six", "[I") 160 := ⟨58, by decide +kernel, rfl, Or.inl wm_758⟩
theorem d_X10_act_160 : pm_i e_X10_act 160 .iload_n .iload 4 162 := Or.inr ⟨by decide +kernel, rfl⟩
theorem d_X10_act_162 : pm_D e_X10_act 162 1 (.iaload) 163 := ⟨by decide +kernel, rfl⟩
theorem d_X10_act_163 : pm_D e_X10_act 163 1 (.iastore) 164 := ⟨by decide +kernel, rfl⟩
theorem d_X10_act_164 : pm_I e_X10_act 164 4 1 167 := ⟨1, by decide +kernel, by decide +kernel, rfl⟩
theorem d_X10_act_167 : pm_B e_X10_act 167 (fun z => .goto z) 138 170 := ⟨-29, by decide +kernel, by decide, rfl⟩
theorem d_X10_act_170 : pm_i e_X10_act 170 .aload_n .aload 0 171 := Or.inl ⟨0, by decide +kernel, rfl, rfl⟩
theorem d_X10_act_171 : pm_i e_X10_act 171 .iload_n .iload 3 172 := Or.inl ⟨3, by decide +kernel, rfl, rfl⟩
theorem d_X10_act_172 : pm_kV e_X10_act 172 e_X10_numberOf RX10 1 175 := ⟨186, by decide +kernel, rfl, fit_X10_act_X10_numberOf, wm_974, Or.inl ⟨wm_972, wm_34⟩⟩
theorem d_X10_act_175 : pm_D e_X10_act 175 1 (.ireturn) 176 := ⟨by decide +kernel, rfl⟩
theorem d_X10_turned_0 : pm_P e_X10_turned 0 0 1 := Or.inl ⟨0, by decide +kernel, by decide +kernel, rfl⟩
theorem d_X10_turned_1 : pm_i e_X10_turned 1 .istore_n .istore 1 2 := Or.inl ⟨1, by decide +kernel, rfl, rfl⟩
theorem d_X10_turned_2 : pm_P e_X10_turned 2 0 3 := Or.inl ⟨0, by decide +kernel, by decide +kernel, rfl⟩
theorem d_X10_turned_3 : pm_i e_X10_turned 3 .istore_n .istore 2 4 := Or.inl ⟨2, by decide +kernel, rfl, rfl⟩
theorem d_X10_turned_4 : pm_i e_X10_turned 4 .iload_n .iload 2 5 := Or.inl ⟨2, by decide +kernel, rfl, rfl⟩
theorem d_X10_turned_5 : pm_P e_X10_turned 5 6 7 := Or.inr <| Or.inl ⟨6, by decide +kernel, by decide +kernel, rfl⟩
theorem d_X10_turned_7 : pm_B e_X10_turned 7 (fun z => .if_icmp .ge z) 28 10 := ⟨21, by decide +kernel, by decide, rfl⟩
theorem d_X10_turned_10 : pm_i e_X10_turned 10 .iload_n .iload 1 11 := Or.inl ⟨1, by decide +kernel, rfl, rfl⟩
theorem d_X10_turned_11 : pm_i e_X10_turned 11 .iload_n .iload 0 12 := Or.inl ⟨0, by decide +kernel, rfl, rfl⟩
theorem d_X10_turned_12 : pm_i e_X10_turned 12 .iload_n .iload 2 13 := Or.inl ⟨2, by decide +kernel, rfl, rfl⟩
theorem d_X10_turned_13 : pm_D e_X10_turned 13 1 (.ishr) 14 := ⟨by decide +kernel, rfl⟩
theorem d_X10_turned_14 : pm_P e_X10_turned 14 1 15 := Or.inl ⟨1, by decide +kernel, by decide +kernel, rfl⟩
theorem d_X10_turned_15 : pm_D e_X10_turned 15 1 (.iand) 16 := ⟨by decide +kernel, rfl⟩
theorem d_X10_turned_16 : pm_P e_X10_turned 16 5 17 := Or.inl ⟨5, by decide +kernel, by decide +kernel, rfl⟩
theorem d_X10_turned_17 : pm_i e_X10_turned 17 .iload_n .iload 2 18 := Or.inl ⟨2, by decide +kernel, rfl, rfl⟩
theorem d_X10_turned_18 : pm_D e_X10_turned 18 1 (.isub) 19 := ⟨by decide +kernel, rfl⟩
theorem d_X10_turned_19 : pm_D e_X10_turned 19 1 (.ishl) 20 := ⟨by decide +kernel, rfl⟩
theorem d_X10_turned_20 : pm_D e_X10_turned 20 1 (.ior) 21 := ⟨by decide +kernel, rfl⟩
theorem d_X10_turned_21 : pm_i e_X10_turned 21 .istore_n .istore 1 22 := Or.inl ⟨1, by decide +kernel, rfl, rfl⟩
theorem d_X10_turned_22 : pm_I e_X10_turned 22 2 1 25 := ⟨1, by decide +kernel, by decide +kernel, rfl⟩
theorem d_X10_turned_25 : pm_B e_X10_turned 25 (fun z => .goto z) 4 28 := ⟨-21, by decide +kernel, by decide, rfl⟩
theorem d_X10_turned_28 : pm_i e_X10_turned 28 .iload_n .iload 1 29 := Or.inl ⟨1, by decide +kernel, rfl, rfl⟩
theorem d_X10_turned_29 : pm_D e_X10_turned 29 1 (.ireturn) 30 := ⟨by decide +kernel, rfl⟩
theorem d_X10_after_0 : pm_i e_X10_after 0 .iload_n .iload 1 1 := Or.inl ⟨1, by decide +kernel, rfl, rfl⟩
theorem d_X10_after_1 : pm_P e_X10_after 1 6 3 := Or.inr <| Or.inl ⟨6, by decide +kernel, by decide +kernel, rfl⟩
theorem d_X10_after_3 : pm_B e_X10_after 3 (fun z => .if_icmp .ge z) 12 6 := ⟨9, by decide +kernel, by decide, rfl⟩
theorem d_X10_after_6 : pm_i e_X10_after 6 .iload_n .iload 0 7 := Or.inl ⟨0, by decide +kernel, rfl, rfl⟩
theorem d_X10_after_7 : pm_P e_X10_after 7 1 8 := Or.inl ⟨1, by decide +kernel, by decide +kernel, rfl⟩
theorem d_X10_after_8 : pm_i e_X10_after 8 .iload_n .iload 1 9 := Or.inl ⟨1, by decide +kernel, rfl, rfl⟩
theorem d_X10_after_9 : pm_D e_X10_after 9 1 (.ishl) 10 := ⟨by decide +kernel, rfl⟩
theorem d_X10_after_10 : pm_D e_X10_after 10 1 (.ixor) 11 := ⟨by decide +kernel, rfl⟩
theorem d_X10_after_11 : pm_D e_X10_after 11 1 (.ireturn) 12 := ⟨by decide +kernel, rfl⟩
theorem d_X10_after_12 : pm_i e_X10_after 12 .iload_n .iload 1 13 := Or.inl ⟨1, by decide +kernel, rfl, rfl⟩
theorem d_X10_after_13 : pm_P e_X10_after 13 8 15 := Or.inr <| Or.inl ⟨8, by decide +kernel, by decide +kernel, rfl⟩
theorem d_X10_after_15 : pm_B e_X10_after 15 (fun z => .if_icmp .ge z) 36 18 := ⟨21, by decide +kernel, by decide, rfl⟩
theorem d_X10_after_18 : pm_i e_X10_after 18 .iload_n .iload 1 19 := Or.inl ⟨1, by decide +kernel, rfl, rfl⟩
theorem d_X10_after_19 : pm_P e_X10_after 19 6 21 := Or.inr <| Or.inl ⟨6, by decide +kernel, by decide +kernel, rfl⟩
theorem d_X10_after_21 : pm_B e_X10_after 21 (fun z => .if_icmp .ne z) 31 24 := ⟨10, by decide +kernel, by decide, rfl⟩
theorem d_X10_after_24 : pm_i e_X10_after 24 .iload_n .iload 0 25 := Or.inl ⟨0, by decide +kernel, rfl, rfl⟩
theorem d_X10_after_25 : pm_kS e_X10_after 25 e_X10_turned 1 28 := ⟨192, by decide +kernel, rfl, fit_X10_after_X10_turned, wm_991, Or.inl wm_990⟩
theorem d_X10_after_28 : pm_B e_X10_after 28 (fun z => .goto z) 35 31 := ⟨7, by decide +kernel, by decide, rfl⟩
theorem d_X10_after_31 : pm_P e_X10_after 31 63 33 := Or.inr <| Or.inl ⟨63, by decide +kernel, by decide +kernel, rfl⟩
theorem d_X10_after_33 : pm_i e_X10_after 33 .iload_n .iload 0 34 := Or.inl ⟨0, by decide +kernel, rfl, rfl⟩
theorem d_X10_after_34 : pm_D e_X10_after 34 1 (.isub) 35 := ⟨by decide +kernel, rfl⟩
theorem d_X10_after_35 : pm_D e_X10_after 35 1 (.ireturn) 36 := ⟨by decide +kernel, rfl⟩
theorem d_X10_after_36 : pm_P e_X10_after 36 0 37 := Or.inl ⟨0, by decide +kernel, by decide +kernel, rfl⟩
theorem d_X10_after_37 : pm_i e_X10_after 37 .istore_n .istore 2 38 := Or.inl ⟨2, by decide +kernel, rfl, rfl⟩
theorem d_X10_after_38 : pm_P e_X10_after 38 0 39 := Or.inl ⟨0, by decide +kernel, by decide +kernel, rfl⟩
theorem d_X10_after_39 : pm_i e_X10_after 39 .istore_n .istore 3 40 := Or.inl ⟨3, by decide +kernel, rfl, rfl⟩
theorem d_X10_after_40 : pm_i e_X10_after 40 .iload_n .iload 3 41 := Or.inl ⟨3, by decide +kernel, rfl, rfl⟩
theorem d_X10_after_41 : pm_P e_X10_after 41 6 43 := Or.inr <| Or.inl ⟨6, by decide +kernel, by decide +kernel, rfl⟩
theorem d_X10_after_43 : pm_B e_X10_after 43 (fun z => .if_icmp .ge z) 65 46 := ⟨22, by decide +kernel, by decide, rfl⟩
theorem d_X10_after_46 : pm_i e_X10_after 46 .iload_n .iload 2 47 := Or.inl ⟨2, by decide +kernel, rfl, rfl⟩
theorem d_X10_after_47 : pm_i e_X10_after 47 .iload_n .iload 0 48 := Or.inl ⟨0, by decide +kernel, rfl, rfl⟩
theorem d_X10_after_48 : pm_i e_X10_after 48 .iload_n .iload 3 49 := Or.inl ⟨3, by decide +kernel, rfl, rfl⟩
theorem d_X10_after_49 : pm_kS e_X10_after 49 e_X10_nestedAt 1 52 := ⟨189, by decide +kernel, rfl, fit_X10_after_X10_nestedAt, wm_981, Or.inl wm_980⟩
theorem d_X10_after_52 : pm_D e_X10_after 52 1 (.ishr) 53 := ⟨by decide +kernel, rfl⟩
theorem d_X10_after_53 : pm_P e_X10_after 53 1 54 := Or.inl ⟨1, by decide +kernel, by decide +kernel, rfl⟩
theorem d_X10_after_54 : pm_D e_X10_after 54 1 (.iand) 55 := ⟨by decide +kernel, rfl⟩
theorem d_X10_after_55 : pm_i e_X10_after 55 .iload_n .iload 3 56 := Or.inl ⟨3, by decide +kernel, rfl, rfl⟩
theorem d_X10_after_56 : pm_D e_X10_after 56 1 (.ishl) 57 := ⟨by decide +kernel, rfl⟩
theorem d_X10_after_57 : pm_D e_X10_after 57 1 (.ior) 58 := ⟨by decide +kernel, rfl⟩
theorem d_X10_after_58 : pm_i e_X10_after 58 .istore_n .istore 2 59 := Or.inl ⟨2, by decide +kernel, rfl, rfl⟩
theorem d_X10_after_59 : pm_I e_X10_after 59 3 1 62 := ⟨1, by decide +kernel, by decide +kernel, rfl⟩
theorem d_X10_after_62 : pm_B e_X10_after 62 (fun z => .goto z) 40 65 := ⟨-22, by decide +kernel, by decide, rfl⟩
theorem d_X10_after_65 : pm_i e_X10_after 65 .iload_n .iload 2 66 := Or.inl ⟨2, by decide +kernel, rfl, rfl⟩
theorem d_X10_after_66 : pm_D e_X10_after 66 1 (.ireturn) 67 := ⟨by decide +kernel, rfl⟩
theorem d_X10_way_0 : pm_i e_X10_way 0 .iload_n .iload 1 1 := Or.inl ⟨1, by decide +kernel, rfl, rfl⟩
theorem d_X10_way_1 : pm_P e_X10_way 1 0 2 := Or.inl ⟨0, by decide +kernel, by decide +kernel, rfl⟩
theorem d_X10_way_2 : pm_P e_X10_way 2 63 4 := Or.inr <| Or.inl ⟨63, by decide +kernel, by decide +kernel, rfl⟩
theorem d_X10_way_4 : pm_kS e_X10_way 4 e_X10_in 3 7 := ⟨106, by decide +kernel, rfl, fit_X10_way_X10_in, wm_853, Or.inl wm_852⟩
theorem d_X10_way_7 : pm_B e_X10_way 7 (fun z => .ifCond .eq z) 31 10 := ⟨24, by decide +kernel, by decide, rfl⟩
theorem d_X10_way_10 : pm_i e_X10_way 10 .iload_n .iload 2 11 := Or.inl ⟨2, by decide +kernel, rfl, rfl⟩
theorem d_X10_way_11 : pm_P e_X10_way 11 0 12 := Or.inl ⟨0, by decide +kernel, by decide +kernel, rfl⟩
theorem d_X10_way_12 : pm_P e_X10_way 12 63 14 := Or.inr <| Or.inl ⟨63, by decide +kernel, by decide +kernel, rfl⟩
theorem d_X10_way_14 : pm_kS e_X10_way 14 e_X10_in 3 17 := ⟨106, by decide +kernel, rfl, fit_X10_way_X10_in, wm_853, Or.inl wm_852⟩
theorem d_X10_way_17 : pm_B e_X10_way 17 (fun z => .ifCond .eq z) 31 20 := ⟨14, by decide +kernel, by decide, rfl⟩
theorem d_X10_way_20 : pm_i e_X10_way 20 .iload_n .iload 3 21 := Or.inl ⟨3, by decide +kernel, rfl, rfl⟩
theorem d_X10_way_21 : pm_P e_X10_way 21 0 22 := Or.inl ⟨0, by decide +kernel, by decide +kernel, rfl⟩
theorem d_X10_way_22 : pm_P e_X10_way 22 511 25 := Or.inr <| Or.inr <| Or.inl ⟨511, by decide +kernel, by decide +kernel, rfl⟩
theorem d_X10_way_25 : pm_kS e_X10_way 25 e_X10_in 3 28 := ⟨106, by decide +kernel, rfl, fit_X10_way_X10_in, wm_853, Or.inl wm_852⟩
theorem d_X10_way_28 : pm_B e_X10_way 28 (fun z => .ifCond .ne z) 33 31 := ⟨5, by decide +kernel, by decide, rfl⟩
theorem d_X10_way_31 : pm_P e_X10_way 31 (-1) 32 := Or.inl ⟨-1, by decide +kernel, by decide +kernel, rfl⟩
theorem d_X10_way_32 : pm_D e_X10_way 32 1 (.ireturn) 33 := ⟨by decide +kernel, rfl⟩
theorem d_X10_way_33 : pm_P e_X10_way 33 0 34 := Or.inl ⟨0, by decide +kernel, by decide +kernel, rfl⟩
theorem d_X10_way_34 : pm_i e_X10_way 34 .istore_n .istore 4 36 := Or.inr ⟨by decide +kernel, rfl⟩
theorem d_X10_way_36 : pm_i e_X10_way 36 .iload_n .iload 4 38 := Or.inr ⟨by decide +kernel, rfl⟩
theorem d_X10_way_38 : pm_P e_X10_way 38 64 40 := Or.inr <| Or.inl ⟨64, by decide +kernel, by decide +kernel, rfl⟩
theorem d_X10_way_40 : pm_B e_X10_way 40 (fun z => .if_icmp .ge z) 69 43 := ⟨29, by decide +kernel, by decide, rfl⟩
theorem d_X10_way_43 : pm_i e_X10_way 43 .aload_n .aload 0 44 := Or.inl ⟨0, by decide +kernel, rfl, rfl⟩
theorem d_X10_way_44 : pm_F e_X10_way 44 .getfield (RX10, "far", "[I") 47 := ⟨61, by decide +kernel, rfl, Or.inl wm_759⟩
theorem d_X10_way_47 : pm_i e_X10_way 47 .iload_n .iload 4 49 := Or.inr ⟨by decide +kernel, rfl⟩
theorem d_X10_way_49 : pm_i e_X10_way 49 .iload_n .iload 4 51 := Or.inr ⟨by decide +kernel, rfl⟩
theorem d_X10_way_51 : pm_i e_X10_way 51 .iload_n .iload 2 52 := Or.inl ⟨2, by decide +kernel, rfl, rfl⟩
theorem d_X10_way_52 : pm_B e_X10_way 52 (fun z => .if_icmp .ne z) 59 55 := ⟨7, by decide +kernel, by decide, rfl⟩
theorem d_X10_way_55 : pm_P e_X10_way 55 0 56 := Or.inl ⟨0, by decide +kernel, by decide +kernel, rfl⟩
theorem d_X10_way_56 : pm_B e_X10_way 56 (fun z => .goto z) 62 59 := ⟨6, by decide +kernel, by decide, rfl⟩
theorem d_X10_way_59 : pm_P e_X10_way 59 1000 62 := Or.inr <| Or.inr <| Or.inl ⟨1000, by decide +kernel, by decide +kernel, rfl⟩
theorem d_X10_way_62 : pm_D e_X10_way 62 1 (.iastore) 63 := ⟨by decide +kernel, rfl⟩
theorem d_X10_way_63 : pm_I e_X10_way 63 4 1 66 := ⟨1, by decide +kernel, by decide +kernel, rfl⟩
theorem d_X10_way_66 : pm_B e_X10_way 66 (fun z => .goto z) 36 69 := ⟨-30, by decide +kernel, by decide, rfl⟩
theorem d_X10_way_69 : pm_P e_X10_way 69 1 70 := Or.inl ⟨1, by decide +kernel, by decide +kernel, rfl⟩
theorem d_X10_way_70 : pm_i e_X10_way 70 .istore_n .istore 4 72 := Or.inr ⟨by decide +kernel, rfl⟩
theorem d_X10_way_72 : pm_i e_X10_way 72 .iload_n .iload 4 74 := Or.inr ⟨by decide +kernel, rfl⟩
theorem d_X10_way_74 : pm_B e_X10_way 74 (fun z => .ifCond .eq z) 173 77 := ⟨99, by decide +kernel, by decide, rfl⟩
theorem d_X10_way_77 : pm_P e_X10_way 77 0 78 := Or.inl ⟨0, by decide +kernel, by decide +kernel, rfl⟩
theorem d_X10_way_78 : pm_i e_X10_way 78 .istore_n .istore 4 80 := Or.inr ⟨by decide +kernel, rfl⟩
theorem d_X10_way_80 : pm_P e_X10_way 80 0 81 := Or.inl ⟨0, by decide +kernel, by decide +kernel, rfl⟩
theorem d_X10_way_81 : pm_i e_X10_way 81 .istore_n .istore 5 83 := Or.inr ⟨by decide +kernel, rfl⟩
theorem d_X10_way_83 : pm_i e_X10_way 83 .iload_n .iload 5 85 := Or.inr ⟨by decide +kernel, rfl⟩
theorem d_X10_way_85 : pm_P e_X10_way 85 64 87 := Or.inr <| Or.inl ⟨64, by decide +kernel, by decide +kernel, rfl⟩
theorem d_X10_way_87 : pm_B e_X10_way 87 (fun z => .if_icmp .ge z) 170 90 := ⟨83, by decide +kernel, by decide, rfl⟩
theorem d_X10_way_90 : pm_P e_X10_way 90 0 91 := Or.inl ⟨0, by decide +kernel, by decide +kernel, rfl⟩
theorem d_X10_way_91 : pm_i e_X10_way 91 .istore_n .istore 6 93 := Or.inr ⟨by decide +kernel, rfl⟩
theorem d_X10_way_93 : pm_i e_X10_way 93 .iload_n .iload 6 95 := Or.inr ⟨by decide +kernel, rfl⟩
theorem d_X10_way_95 : pm_P e_X10_way 95 9 97 := Or.inr <| Or.inl ⟨9, by decide +kernel, by decide +kernel, rfl⟩
theorem d_X10_way_97 : pm_B e_X10_way 97 (fun z => .if_icmp .ge z) 164 100 := ⟨67, by decide +kernel, by decide, rfl⟩
theorem d_X10_way_100 : pm_i e_X10_way 100 .iload_n .iload 3 101 := Or.inl ⟨3, by decide +kernel, rfl, rfl⟩
theorem d_X10_way_101 : pm_i e_X10_way 101 .iload_n .iload 6 103 := Or.inr ⟨by decide +kernel, rfl⟩
theorem d_X10_way_103 : pm_D e_X10_way 103 1 (.ishr) 104 := ⟨by decide +kernel, rfl⟩
theorem d_X10_way_104 : pm_P e_X10_way 104 1 105 := Or.inl ⟨1, by decide +kernel, by decide +kernel, rfl⟩
theorem d_X10_way_105 : pm_D e_X10_way 105 1 (.iand) 106 := ⟨by decide +kernel, rfl⟩
theorem d_X10_way_106 : pm_P e_X10_way 106 1 107 := Or.inl ⟨1, by decide +kernel, by decide +kernel, rfl⟩
theorem d_X10_way_107 : pm_B e_X10_way 107 (fun z => .if_icmp .ne z) 158 110 := ⟨51, by decide +kernel, by decide, rfl⟩
theorem d_X10_way_110 : pm_i e_X10_way 110 .aload_n .aload 0 111 := Or.inl ⟨0, by decide +kernel, rfl, rfl⟩
theorem d_X10_way_111 : pm_F e_X10_way 111 .getfield (RX10, "far", "[I") 114 := ⟨61, by decide +kernel, rfl, Or.inl wm_759⟩
theorem d_X10_way_114 : pm_i e_X10_way 114 .iload_n .iload 5 116 := Or.inr ⟨by decide +kernel, rfl⟩
theorem d_X10_way_116 : pm_i e_X10_way 116 .iload_n .iload 6 118 := Or.inr ⟨by decide +kernel, rfl⟩
theorem d_X10_way_118 : pm_kS e_X10_way 118 e_X10_after 2 121 := ⟨195, by decide +kernel, rfl, fit_X10_way_X10_after, wm_988, Or.inl wm_987⟩
theorem d_X10_way_121 : pm_D e_X10_way 121 1 (.iaload) 122 := ⟨by decide +kernel, rfl⟩
theorem d_X10_way_122 : pm_P e_X10_way 122 1 123 := Or.inl ⟨1, by decide +kernel, by decide +kernel, rfl⟩
theorem d_X10_way_123 : pm_D e_X10_way 123 1 (.iadd) 124 := ⟨by decide +kernel, rfl⟩
theorem d_X10_way_124 : pm_i e_X10_way 124 .aload_n .aload 0 125 := Or.inl ⟨0, by decide +kernel, rfl, rfl⟩
theorem d_X10_way_125 : pm_F e_X10_way 125 .getfield (RX10, "far", "[I") 128 := ⟨61, by decide +kernel, rfl, Or.inl wm_759⟩
theorem d_X10_way_128 : pm_i e_X10_way 128 .iload_n .iload 5 130 := Or.inr ⟨by decide +kernel, rfl⟩
theorem d_X10_way_130 : pm_D e_X10_way 130 1 (.iaload) 131 := ⟨by decide +kernel, rfl⟩
theorem d_X10_way_131 : pm_B e_X10_way 131 (fun z => .if_icmp .ge z) 158 134 := ⟨27, by decide +kernel, by decide, rfl⟩
theorem d_X10_way_134 : pm_i e_X10_way 134 .aload_n .aload 0 135 := Or.inl ⟨0, by decide +kernel, rfl, rfl⟩
theorem d_X10_way_135 : pm_F e_X10_way 135 .getfield (RX10, "far", "[I") 138 := ⟨61, by decide +kernel, rfl, Or.inl wm_759⟩
theorem d_X10_way_138 : pm_i e_X10_way 138 .iload_n .iload 5 140 := Or.inr ⟨by decide +kernel, rfl⟩
theorem d_X10_way_140 : pm_i e_X10_way 140 .aload_n .aload 0 141 := Or.inl ⟨0, by decide +kernel, rfl, rfl⟩
theorem d_X10_way_141 : pm_F e_X10_way 141 .getfield (RX10, "far", "[I") 144 := ⟨61, by decide +kernel, rfl, Or.inl wm_759⟩
theorem d_X10_way_144 : pm_i e_X10_way 144 .iload_n .iload 5 146 := Or.inr ⟨by decide +kernel, rfl⟩
theorem d_X10_way_146 : pm_i e_X10_way 146 .iload_n .iload 6 148 := Or.inr ⟨by decide +kernel, rfl⟩
theorem d_X10_way_148 : pm_kS e_X10_way 148 e_X10_after 2 151 := ⟨195, by decide +kernel, rfl, fit_X10_way_X10_after, wm_988, Or.inl wm_987⟩
theorem d_X10_way_151 : pm_D e_X10_way 151 1 (.iaload) 152 := ⟨by decide +kernel, rfl⟩
theorem d_X10_way_152 : pm_P e_X10_way 152 1 153 := Or.inl ⟨1, by decide +kernel, by decide +kernel, rfl⟩
theorem d_X10_way_153 : pm_D e_X10_way 153 1 (.iadd) 154 := ⟨by decide +kernel, rfl⟩
theorem d_X10_way_154 : pm_D e_X10_way 154 1 (.iastore) 155 := ⟨by decide +kernel, rfl⟩
theorem d_X10_way_155 : pm_P e_X10_way 155 1 156 := Or.inl ⟨1, by decide +kernel, by decide +kernel, rfl⟩
theorem d_X10_way_156 : pm_i e_X10_way 156 .istore_n .istore 4 158 := Or.inr ⟨by decide +kernel, rfl⟩
theorem d_X10_way_158 : pm_I e_X10_way 158 6 1 161 := ⟨1, by decide +kernel, by decide +kernel, rfl⟩
theorem d_X10_way_161 : pm_B e_X10_way 161 (fun z => .goto z) 93 164 := ⟨-68, by decide +kernel, by decide, rfl⟩
theorem d_X10_way_164 : pm_I e_X10_way 164 5 1 167 := ⟨1, by decide +kernel, by decide +kernel, rfl⟩
theorem d_X10_way_167 : pm_B e_X10_way 167 (fun z => .goto z) 83 170 := ⟨-84, by decide +kernel, by decide, rfl⟩
theorem d_X10_way_170 : pm_B e_X10_way 170 (fun z => .goto z) 72 173 := ⟨-98, by decide +kernel, by decide, rfl⟩
theorem d_X10_way_173 : pm_i e_X10_way 173 .aload_n .aload 0 174 := Or.inl ⟨0, by decide +kernel, rfl, rfl⟩
theorem d_X10_way_174 : pm_i e_X10_way 174 .aload_n .aload 0 175 := Or.inl ⟨0, by decide +kernel, rfl, rfl⟩
theorem d_X10_way_175 : pm_F e_X10_way 175 .getfield (RX10, "far", "[I") 178 := ⟨61, by decide +kernel, rfl, Or.inl wm_759⟩
theorem d_X10_way_178 : pm_i e_X10_way 178 .iload_n .iload 1 179 := Or.inl ⟨1, by decide +kernel, rfl, rfl⟩
theorem d_X10_way_179 : pm_D e_X10_way 179 1 (.iaload) 180 := ⟨by decide +kernel, rfl⟩
theorem d_X10_way_180 : pm_P e_X10_way 180 1000 183 := Or.inr <| Or.inr <| Or.inl ⟨1000, by decide +kernel, by decide +kernel, rfl⟩
theorem d_X10_way_183 : pm_B e_X10_way 183 (fun z => .if_icmp .ge z) 195 186 := ⟨12, by decide +kernel, by decide, rfl⟩
theorem d_X10_way_186 : pm_i e_X10_way 186 .aload_n .aload 0 187 := Or.inl ⟨0, by decide +kernel, rfl, rfl⟩
theorem d_X10_way_187 : pm_F e_X10_way 187 .getfield (RX10, "far", "[I") 190 := ⟨61, by decide +kernel, rfl, Or.inl wm_759⟩
theorem d_X10_way_190 : pm_i e_X10_way 190 .iload_n .iload 1 191 := Or.inl ⟨1, by decide +kernel, rfl, rfl⟩
theorem d_X10_way_191 : pm_D e_X10_way 191 1 (.iaload) 192 := ⟨by decide +kernel, rfl⟩
theorem d_X10_way_192 : pm_B e_X10_way 192 (fun z => .goto z) 197 195 := ⟨5, by decide +kernel, by decide, rfl⟩
theorem d_X10_way_195 : pm_P e_X10_way 195 (-9) 197 := Or.inr <| Or.inl ⟨-9, by decide +kernel, by decide +kernel, rfl⟩
theorem d_X10_way_197 : pm_F e_X10_way 197 .putfield (RX10, "steps", "I") 200 := ⟨64, by decide +kernel, rfl, Or.inl wm_760⟩
theorem d_X10_way_200 : pm_i e_X10_way 200 .iload_n .iload 1 201 := Or.inl ⟨1, by decide +kernel, rfl, rfl⟩
theorem d_X10_way_201 : pm_i e_X10_way 201 .istore_n .istore 5 203 := Or.inr ⟨by decide +kernel, rfl⟩
theorem d_X10_way_203 : pm_P e_X10_way 203 0 204 := Or.inl ⟨0, by decide +kernel, by decide +kernel, rfl⟩
theorem d_X10_way_204 : pm_i e_X10_way 204 .istore_n .istore 6 206 := Or.inr ⟨by decide +kernel, rfl⟩
theorem d_X10_way_206 : pm_i e_X10_way 206 .iload_n .iload 6 208 := Or.inr ⟨by decide +kernel, rfl⟩
theorem d_X10_way_208 : pm_i e_X10_way 208 .aload_n .aload 0 209 := Or.inl ⟨0, by decide +kernel, rfl, rfl⟩
theorem d_X10_way_209 : pm_F e_X10_way 209 .getfield (RX10, "steps", "I") 212 := ⟨64, by decide +kernel, rfl, Or.inl wm_760⟩
theorem d_X10_way_212 : pm_B e_X10_way 212 (fun z => .if_icmp .ge z) 281 215 := ⟨69, by decide +kernel, by decide, rfl⟩
theorem d_X10_way_215 : pm_P e_X10_way 215 0 216 := Or.inl ⟨0, by decide +kernel, by decide +kernel, rfl⟩
theorem d_X10_way_216 : pm_i e_X10_way 216 .istore_n .istore 7 218 := Or.inr ⟨by decide +kernel, rfl⟩
theorem d_X10_way_218 : pm_i e_X10_way 218 .iload_n .iload 3 219 := Or.inl ⟨3, by decide +kernel, rfl, rfl⟩
theorem d_X10_way_219 : pm_i e_X10_way 219 .iload_n .iload 7 221 := Or.inr ⟨by decide +kernel, rfl⟩
theorem d_X10_way_221 : pm_D e_X10_way 221 1 (.ishr) 222 := ⟨by decide +kernel, rfl⟩
theorem d_X10_way_222 : pm_P e_X10_way 222 1 223 := Or.inl ⟨1, by decide +kernel, by decide +kernel, rfl⟩
theorem d_X10_way_223 : pm_D e_X10_way 223 1 (.iand) 224 := ⟨by decide +kernel, rfl⟩
theorem d_X10_way_224 : pm_B e_X10_way 224 (fun z => .ifCond .eq z) 251 227 := ⟨27, by decide +kernel, by decide, rfl⟩
theorem d_X10_way_227 : pm_i e_X10_way 227 .aload_n .aload 0 228 := Or.inl ⟨0, by decide +kernel, rfl, rfl⟩
theorem d_X10_way_228 : pm_F e_X10_way 228 .getfield (RX10, "far", "[I") 231 := ⟨61, by decide +kernel, rfl, Or.inl wm_759⟩
theorem d_X10_way_231 : pm_i e_X10_way 231 .iload_n .iload 5 233 := Or.inr ⟨by decide +kernel, rfl⟩
theorem d_X10_way_233 : pm_i e_X10_way 233 .iload_n .iload 7 235 := Or.inr ⟨by decide +kernel, rfl⟩
theorem d_X10_way_235 : pm_kS e_X10_way 235 e_X10_after 2 238 := ⟨195, by decide +kernel, rfl, fit_X10_way_X10_after, wm_988, Or.inl wm_987⟩
theorem d_X10_way_238 : pm_D e_X10_way 238 1 (.iaload) 239 := ⟨by decide +kernel, rfl⟩
theorem d_X10_way_239 : pm_i e_X10_way 239 .aload_n .aload 0 240 := Or.inl ⟨0, by decide +kernel, rfl, rfl⟩
theorem d_X10_way_240 : pm_F e_X10_way 240 .getfield (RX10, "far", "[I") 243 := ⟨61, by decide +kernel, rfl, Or.inl wm_759⟩
theorem d_X10_way_243 : pm_i e_X10_way 243 .iload_n .iload 5 245 := Or.inr ⟨by decide +kernel, rfl⟩
theorem d_X10_way_245 : pm_D e_X10_way 245 1 (.iaload) 246 := ⟨by decide +kernel, rfl⟩
theorem d_X10_way_246 : pm_P e_X10_way 246 1 247 := Or.inl ⟨1, by decide +kernel, by decide +kernel, rfl⟩
theorem d_X10_way_247 : pm_D e_X10_way 247 1 (.isub) 248 := ⟨by decide +kernel, rfl⟩
theorem d_X10_way_248 : pm_B e_X10_way 248 (fun z => .if_icmp .eq z) 257 251 := ⟨9, by decide +kernel, by decide, rfl⟩
theorem d_X10_way_251 : pm_I e_X10_way 251 7 1 254 := ⟨1, by decide +kernel, by decide +kernel, rfl⟩
theorem d_X10_way_254 : pm_B e_X10_way 254 (fun z => .goto z) 218 257 := ⟨-36, by decide +kernel, by decide, rfl⟩
theorem d_X10_way_257 : pm_i e_X10_way 257 .aload_n .aload 0 258 := Or.inl ⟨0, by decide +kernel, rfl, rfl⟩
theorem d_X10_way_258 : pm_F e_X10_way 258 .getfield (RX10, "stepRow", "[I") 261 := ⟨68, by decide +kernel, rfl, Or.inl wm_761⟩
theorem d_X10_way_261 : pm_i e_X10_way 261 .iload_n .iload 6 263 := Or.inr ⟨by decide +kernel, rfl⟩
theorem d_X10_way_263 : pm_i e_X10_way 263 .iload_n .iload 7 265 := Or.inr ⟨by decide +kernel, rfl⟩
theorem d_X10_way_265 : pm_D e_X10_way 265 1 (.iastore) 266 := ⟨by decide +kernel, rfl⟩
theorem d_X10_way_266 : pm_i e_X10_way 266 .iload_n .iload 5 268 := Or.inr ⟨by decide +kernel, rfl⟩
theorem d_X10_way_268 : pm_i e_X10_way 268 .iload_n .iload 7 270 := Or.inr ⟨by decide +kernel, rfl⟩
theorem d_X10_way_270 : pm_kS e_X10_way 270 e_X10_after 2 273 := ⟨195, by decide +kernel, rfl, fit_X10_way_X10_after, wm_988, Or.inl wm_987⟩
theorem d_X10_way_273 : pm_i e_X10_way 273 .istore_n .istore 5 275 := Or.inr ⟨by decide +kernel, rfl⟩
theorem d_X10_way_275 : pm_I e_X10_way 275 6 1 278 := ⟨1, by decide +kernel, by decide +kernel, rfl⟩
theorem d_X10_way_278 : pm_B e_X10_way 278 (fun z => .goto z) 206 281 := ⟨-72, by decide +kernel, by decide, rfl⟩
theorem d_X10_way_281 : pm_i e_X10_way 281 .aload_n .aload 0 282 := Or.inl ⟨0, by decide +kernel, rfl, rfl⟩
theorem d_X10_way_282 : pm_F e_X10_way 282 .getfield (RX10, "steps", "I") 285 := ⟨64, by decide +kernel, rfl, Or.inl wm_760⟩
theorem d_X10_way_285 : pm_D e_X10_way 285 1 (.ireturn) 286 := ⟨by decide +kernel, rfl⟩
theorem d_X10_step_0 : pm_i e_X10_step 0 .iload_n .iload 1 1 := Or.inl ⟨1, by decide +kernel, rfl, rfl⟩
theorem d_X10_step_1 : pm_P e_X10_step 1 0 2 := Or.inl ⟨0, by decide +kernel, by decide +kernel, rfl⟩
theorem d_X10_step_2 : pm_i e_X10_step 2 .aload_n .aload 0 3 := Or.inl ⟨0, by decide +kernel, rfl, rfl⟩
theorem d_X10_step_3 : pm_F e_X10_step 3 .getfield (RX10, "steps", "I") 6 := ⟨64, by decide +kernel, rfl, Or.inl wm_760⟩
theorem d_X10_step_6 : pm_P e_X10_step 6 1 7 := Or.inl ⟨1, by decide +kernel, by decide +kernel, rfl⟩
theorem d_X10_step_7 : pm_D e_X10_step 7 1 (.isub) 8 := ⟨by decide +kernel, rfl⟩
theorem d_X10_step_8 : pm_kS e_X10_step 8 e_X10_in 3 11 := ⟨106, by decide +kernel, rfl, fit_X10_step_X10_in, wm_853, Or.inl wm_852⟩
theorem d_X10_step_11 : pm_B e_X10_step 11 (fun z => .ifCond .eq z) 23 14 := ⟨12, by decide +kernel, by decide, rfl⟩
theorem d_X10_step_14 : pm_i e_X10_step 14 .aload_n .aload 0 15 := Or.inl ⟨0, by decide +kernel, rfl, rfl⟩
theorem d_X10_step_15 : pm_F e_X10_step 15 .getfield (RX10, "stepRow", "[I") 18 := ⟨68, by decide +kernel, rfl, Or.inl wm_761⟩
theorem d_X10_step_18 : pm_i e_X10_step 18 .iload_n .iload 1 19 := Or.inl ⟨1, by decide +kernel, rfl, rfl⟩
theorem d_X10_step_19 : pm_D e_X10_step 19 1 (.iaload) 20 := ⟨by decide +kernel, rfl⟩
theorem d_X10_step_20 : pm_B e_X10_step 20 (fun z => .goto z) 25 23 := ⟨5, by decide +kernel, by decide, rfl⟩
theorem d_X10_step_23 : pm_P e_X10_step 23 (-9) 25 := Or.inr <| Or.inl ⟨-9, by decide +kernel, by decide +kernel, rfl⟩
theorem d_X10_step_25 : pm_D e_X10_step 25 1 (.ireturn) 26 := ⟨by decide +kernel, rfl⟩
theorem d_X10_isRow_0 : pm_i e_X10_isRow 0 .iload_n .iload 0 1 := Or.inl ⟨0, by decide +kernel, rfl, rfl⟩
theorem d_X10_isRow_1 : pm_P e_X10_isRow 1 0 2 := Or.inl ⟨0, by decide +kernel, by decide +kernel, rfl⟩
theorem d_X10_isRow_2 : pm_P e_X10_isRow 2 3 3 := Or.inl ⟨3, by decide +kernel, by decide +kernel, rfl⟩
theorem d_X10_isRow_3 : pm_kS e_X10_isRow 3 e_X10_in 3 6 := ⟨106, by decide +kernel, rfl, fit_X10_isRow_X10_in, wm_853, Or.inl wm_852⟩
theorem d_X10_isRow_6 : pm_D e_X10_isRow 6 1 (.ireturn) 7 := ⟨by decide +kernel, rfl⟩
theorem d_X10_looked_0 : pm_i e_X10_looked 0 .iload_n .iload 1 1 := Or.inl ⟨1, by decide +kernel, rfl, rfl⟩
theorem d_X10_looked_1 : pm_kS e_X10_looked 1 e_X10_isRow 1 4 := ⟨198, by decide +kernel, rfl, fit_X10_looked_X10_isRow, wm_1002, Or.inl wm_1001⟩
theorem d_X10_looked_4 : pm_B e_X10_looked 4 (fun z => .ifCond .ne z) 11 7 := ⟨7, by decide +kernel, by decide, rfl⟩
theorem d_X10_looked_7 : pm_P e_X10_looked 7 (-1) 8 := Or.inl ⟨-1, by decide +kernel, by decide +kernel, rfl⟩
theorem d_X10_looked_8 : pm_B e_X10_looked 8 (fun z => .goto z) 29 11 := ⟨21, by decide +kernel, by decide, rfl⟩
theorem d_X10_looked_11 : pm_i e_X10_looked 11 .aload_n .aload 0 12 := Or.inl ⟨0, by decide +kernel, rfl, rfl⟩
theorem d_X10_looked_12 : pm_F e_X10_looked 12 .getfield (RX10, "sizes", "[I") 15 := ⟨71, by decide +kernel, rfl, Or.inl wm_762⟩
theorem d_X10_looked_15 : pm_i e_X10_looked 15 .iload_n .iload 1 16 := Or.inl ⟨1, by decide +kernel, rfl, rfl⟩
theorem d_X10_looked_16 : pm_D e_X10_looked 16 1 (.iaload) 17 := ⟨by decide +kernel, rfl⟩
theorem d_X10_looked_17 : pm_B e_X10_looked 17 (fun z => .ifCond .ge z) 28 20 := ⟨11, by decide +kernel, by decide, rfl⟩
theorem d_X10_looked_20 : pm_i e_X10_looked 20 .aload_n .aload 0 21 := Or.inl ⟨0, by decide +kernel, rfl, rfl⟩
theorem d_X10_looked_21 : pm_P e_X10_looked 21 1 22 := Or.inl ⟨1, by decide +kernel, by decide +kernel, rfl⟩
theorem d_X10_looked_22 : pm_kV e_X10_looked 22 e_X10_meets RX10 1 25 := ⟨131, by decide +kernel, rfl, fit_X10_looked_X10_meets, wm_881, Or.inl ⟨wm_879, wm_23⟩⟩
theorem d_X10_looked_25 : pm_B e_X10_looked 25 (fun z => .goto z) 29 28 := ⟨4, by decide +kernel, by decide, rfl⟩
theorem d_X10_looked_28 : pm_P e_X10_looked 28 0 29 := Or.inl ⟨0, by decide +kernel, by decide +kernel, rfl⟩
theorem d_X10_looked_29 : pm_D e_X10_looked 29 1 (.ireturn) 30 := ⟨by decide +kernel, rfl⟩
theorem d_X10_row_0 : pm_i e_X10_row 0 .iload_n .iload 1 1 := Or.inl ⟨1, by decide +kernel, rfl, rfl⟩
theorem d_X10_row_1 : pm_kS e_X10_row 1 e_X10_isRow 1 4 := ⟨198, by decide +kernel, rfl, fit_X10_row_X10_isRow, wm_1002, Or.inl wm_1001⟩
theorem d_X10_row_4 : pm_B e_X10_row 4 (fun z => .ifCond .eq z) 13 7 := ⟨9, by decide +kernel, by decide, rfl⟩
theorem d_X10_row_7 : pm_i e_X10_row 7 .iload_n .iload 2 8 := Or.inl ⟨2, by decide +kernel, rfl, rfl⟩
theorem d_X10_row_8 : pm_P e_X10_row 8 64 10 := Or.inr <| Or.inl ⟨64, by decide +kernel, by decide +kernel, rfl⟩
theorem d_X10_row_10 : pm_B e_X10_row 10 (fun z => .if_icmp .le z) 15 13 := ⟨5, by decide +kernel, by decide, rfl⟩
theorem d_X10_row_13 : pm_P e_X10_row 13 (-1) 14 := Or.inl ⟨-1, by decide +kernel, by decide +kernel, rfl⟩
theorem d_X10_row_14 : pm_D e_X10_row 14 1 (.ireturn) 15 := ⟨by decide +kernel, rfl⟩
theorem d_X10_row_15 : pm_i e_X10_row 15 .iload_n .iload 2 16 := Or.inl ⟨2, by decide +kernel, rfl, rfl⟩
theorem d_X10_row_16 : pm_B e_X10_row 16 (fun z => .ifCond .ge z) 25 19 := ⟨9, by decide +kernel, by decide, rfl⟩
theorem d_X10_row_19 : pm_i e_X10_row 19 .aload_n .aload 0 20 := Or.inl ⟨0, by decide +kernel, rfl, rfl⟩
theorem d_X10_row_20 : pm_P e_X10_row 20 5 21 := Or.inl ⟨5, by decide +kernel, by decide +kernel, rfl⟩
theorem d_X10_row_21 : pm_kV e_X10_row 21 e_X10_meets RX10 1 24 := ⟨131, by decide +kernel, rfl, fit_X10_row_X10_meets, wm_881, Or.inl ⟨wm_879, wm_23⟩⟩
theorem d_X10_row_24 : pm_D e_X10_row 24 1 (.ireturn) 25 := ⟨by decide +kernel, rfl⟩
theorem d_X10_row_25 : pm_i e_X10_row 25 .aload_n .aload 0 26 := Or.inl ⟨0, by decide +kernel, rfl, rfl⟩
theorem d_X10_row_26 : pm_F e_X10_row 26 .getfield (RX10, "sizes", "[I") 29 := ⟨71, by decide +kernel, rfl, Or.inl wm_762⟩
theorem d_X10_row_29 : pm_i e_X10_row 29 .iload_n .iload 1 30 := Or.inl ⟨1, by decide +kernel, rfl, rfl⟩
theorem d_X10_row_30 : pm_i e_X10_row 30 .iload_n .iload 2 31 := Or.inl ⟨2, by decide +kernel, rfl, rfl⟩
theorem d_X10_row_31 : pm_D e_X10_row 31 1 (.iastore) 32 := ⟨by decide +kernel, rfl⟩
theorem d_X10_row_32 : pm_P e_X10_row 32 0 33 := Or.inl ⟨0, by decide +kernel, by decide +kernel, rfl⟩
theorem d_X10_row_33 : pm_i e_X10_row 33 .istore_n .istore 3 34 := Or.inl ⟨3, by decide +kernel, rfl, rfl⟩
theorem d_X10_row_34 : pm_i e_X10_row 34 .iload_n .iload 3 35 := Or.inl ⟨3, by decide +kernel, rfl, rfl⟩
theorem d_X10_row_35 : pm_P e_X10_row 35 64 37 := Or.inr <| Or.inl ⟨64, by decide +kernel, by decide +kernel, rfl⟩
theorem d_X10_row_37 : pm_B e_X10_row 37 (fun z => .if_icmp .ge z) 58 40 := ⟨21, by decide +kernel, by decide, rfl⟩
theorem d_X10_row_40 : pm_i e_X10_row 40 .aload_n .aload 0 41 := Or.inl ⟨0, by decide +kernel, rfl, rfl⟩
theorem d_X10_row_41 : pm_F e_X10_row 41 .getfield (RX10, "rows", "[I") 44 := ⟨74, by decide +kernel, rfl, Or.inl wm_763⟩
theorem d_X10_row_44 : pm_P e_X10_row 44 64 46 := Or.inr <| Or.inl ⟨64, by decide +kernel, by decide +kernel, rfl⟩
theorem d_X10_row_46 : pm_i e_X10_row 46 .iload_n .iload 1 47 := Or.inl ⟨1, by decide +kernel, rfl, rfl⟩
theorem d_X10_row_47 : pm_D e_X10_row 47 1 (.imul) 48 := ⟨by decide +kernel, rfl⟩
theorem d_X10_row_48 : pm_i e_X10_row 48 .iload_n .iload 3 49 := Or.inl ⟨3, by decide +kernel, rfl, rfl⟩
theorem d_X10_row_49 : pm_D e_X10_row 49 1 (.iadd) 50 := ⟨by decide +kernel, rfl⟩
theorem d_X10_row_50 : pm_P e_X10_row 50 0 51 := Or.inl ⟨0, by decide +kernel, by decide +kernel, rfl⟩
theorem d_X10_row_51 : pm_D e_X10_row 51 1 (.iastore) 52 := ⟨by decide +kernel, rfl⟩
theorem d_X10_row_52 : pm_I e_X10_row 52 3 1 55 := ⟨1, by decide +kernel, by decide +kernel, rfl⟩
theorem d_X10_row_55 : pm_B e_X10_row 55 (fun z => .goto z) 34 58 := ⟨-21, by decide +kernel, by decide, rfl⟩
theorem d_X10_row_58 : pm_i e_X10_row 58 .iload_n .iload 2 59 := Or.inl ⟨2, by decide +kernel, rfl, rfl⟩
theorem d_X10_row_59 : pm_D e_X10_row 59 1 (.ireturn) 60 := ⟨by decide +kernel, rfl⟩
theorem d_X10_lay_0 : pm_i e_X10_lay 0 .aload_n .aload 0 1 := Or.inl ⟨0, by decide +kernel, rfl, rfl⟩
theorem d_X10_lay_1 : pm_i e_X10_lay 1 .iload_n .iload 1 2 := Or.inl ⟨1, by decide +kernel, rfl, rfl⟩
theorem d_X10_lay_2 : pm_kV e_X10_lay 2 e_X10_looked RX10 1 5 := ⟨201, by decide +kernel, rfl, fit_X10_lay_X10_looked, wm_1010, Or.inl ⟨wm_1008, wm_35⟩⟩
theorem d_X10_lay_5 : pm_i e_X10_lay 5 .istore_n .istore 4 7 := Or.inr ⟨by decide +kernel, rfl⟩
theorem d_X10_lay_7 : pm_i e_X10_lay 7 .iload_n .iload 4 9 := Or.inr ⟨by decide +kernel, rfl⟩
theorem d_X10_lay_9 : pm_B e_X10_lay 9 (fun z => .ifCond .ge z) 15 12 := ⟨6, by decide +kernel, by decide, rfl⟩
theorem d_X10_lay_12 : pm_i e_X10_lay 12 .iload_n .iload 4 14 := Or.inr ⟨by decide +kernel, rfl⟩
theorem d_X10_lay_14 : pm_D e_X10_lay 14 1 (.ireturn) 15 := ⟨by decide +kernel, rfl⟩
theorem d_X10_lay_15 : pm_i e_X10_lay 15 .iload_n .iload 2 16 := Or.inl ⟨2, by decide +kernel, rfl, rfl⟩
theorem d_X10_lay_16 : pm_P e_X10_lay 16 0 17 := Or.inl ⟨0, by decide +kernel, by decide +kernel, rfl⟩
theorem d_X10_lay_17 : pm_i e_X10_lay 17 .aload_n .aload 0 18 := Or.inl ⟨0, by decide +kernel, rfl, rfl⟩
theorem d_X10_lay_18 : pm_F e_X10_lay 18 .getfield (RX10, "sizes", "[I") 21 := ⟨71, by decide +kernel, rfl, Or.inl wm_762⟩
theorem d_X10_lay_21 : pm_i e_X10_lay 21 .iload_n .iload 1 22 := Or.inl ⟨1, by decide +kernel, rfl, rfl⟩
theorem d_X10_lay_22 : pm_D e_X10_lay 22 1 (.iaload) 23 := ⟨by decide +kernel, rfl⟩
theorem d_X10_lay_23 : pm_P e_X10_lay 23 1 24 := Or.inl ⟨1, by decide +kernel, by decide +kernel, rfl⟩
theorem d_X10_lay_24 : pm_D e_X10_lay 24 1 (.isub) 25 := ⟨by decide +kernel, rfl⟩
theorem d_X10_lay_25 : pm_kS e_X10_lay 25 e_X10_in 3 28 := ⟨106, by decide +kernel, rfl, fit_X10_lay_X10_in, wm_853, Or.inl wm_852⟩
theorem d_X10_lay_28 : pm_B e_X10_lay 28 (fun z => .ifCond .ne z) 37 31 := ⟨9, by decide +kernel, by decide, rfl⟩
theorem d_X10_lay_31 : pm_i e_X10_lay 31 .aload_n .aload 0 32 := Or.inl ⟨0, by decide +kernel, rfl, rfl⟩
theorem d_X10_lay_32 : pm_P e_X10_lay 32 2 33 := Or.inl ⟨2, by decide +kernel, by decide +kernel, rfl⟩
theorem d_X10_lay_33 : pm_kV e_X10_lay 33 e_X10_meets RX10 1 36 := ⟨131, by decide +kernel, rfl, fit_X10_lay_X10_meets, wm_881, Or.inl ⟨wm_879, wm_23⟩⟩
theorem d_X10_lay_36 : pm_D e_X10_lay 36 1 (.ireturn) 37 := ⟨by decide +kernel, rfl⟩
theorem d_X10_lay_37 : pm_i e_X10_lay 37 .aload_n .aload 0 38 := Or.inl ⟨0, by decide +kernel, rfl, rfl⟩
theorem d_X10_lay_38 : pm_F e_X10_lay 38 .getfield (RX10, "rows", "[I") 41 := ⟨74, by decide +kernel, rfl, Or.inl wm_763⟩
theorem d_X10_lay_41 : pm_P e_X10_lay 41 64 43 := Or.inr <| Or.inl ⟨64, by decide +kernel, by decide +kernel, rfl⟩
theorem d_X10_lay_43 : pm_i e_X10_lay 43 .iload_n .iload 1 44 := Or.inl ⟨1, by decide +kernel, rfl, rfl⟩
theorem d_X10_lay_44 : pm_D e_X10_lay 44 1 (.imul) 45 := ⟨by decide +kernel, rfl⟩
theorem d_X10_lay_45 : pm_i e_X10_lay 45 .iload_n .iload 2 46 := Or.inl ⟨2, by decide +kernel, rfl, rfl⟩
theorem d_X10_lay_46 : pm_D e_X10_lay 46 1 (.iadd) 47 := ⟨by decide +kernel, rfl⟩
theorem d_X10_lay_47 : pm_D e_X10_lay 47 1 (.iaload) 48 := ⟨by decide +kernel, rfl⟩
theorem d_X10_lay_48 : pm_i e_X10_lay 48 .istore_n .istore 5 50 := Or.inr ⟨by decide +kernel, rfl⟩
theorem d_X10_lay_50 : pm_i e_X10_lay 50 .aload_n .aload 0 51 := Or.inl ⟨0, by decide +kernel, rfl, rfl⟩
theorem d_X10_lay_51 : pm_F e_X10_lay 51 .getfield (RX10, "rows", "[I") 54 := ⟨74, by decide +kernel, rfl, Or.inl wm_763⟩
theorem d_X10_lay_54 : pm_P e_X10_lay 54 64 56 := Or.inr <| Or.inl ⟨64, by decide +kernel, by decide +kernel, rfl⟩
theorem d_X10_lay_56 : pm_i e_X10_lay 56 .iload_n .iload 1 57 := Or.inl ⟨1, by decide +kernel, rfl, rfl⟩
theorem d_X10_lay_57 : pm_D e_X10_lay 57 1 (.imul) 58 := ⟨by decide +kernel, rfl⟩
theorem d_X10_lay_58 : pm_i e_X10_lay 58 .iload_n .iload 2 59 := Or.inl ⟨2, by decide +kernel, rfl, rfl⟩
theorem d_X10_lay_59 : pm_D e_X10_lay 59 1 (.iadd) 60 := ⟨by decide +kernel, rfl⟩
theorem d_X10_lay_60 : pm_i e_X10_lay 60 .iload_n .iload 3 61 := Or.inl ⟨3, by decide +kernel, rfl, rfl⟩
theorem d_X10_lay_61 : pm_D e_X10_lay 61 1 (.i2b) 62 := ⟨by decide +kernel, rfl⟩
theorem d_X10_lay_62 : pm_D e_X10_lay 62 1 (.iastore) 63 := ⟨by decide +kernel, rfl⟩
theorem d_X10_lay_63 : pm_i e_X10_lay 63 .iload_n .iload 5 65 := Or.inr ⟨by decide +kernel, rfl⟩
theorem d_X10_lay_65 : pm_P e_X10_lay 65 1000 68 := Or.inr <| Or.inr <| Or.inl ⟨1000, by decide +kernel, by decide +kernel, rfl⟩
theorem d_X10_lay_68 : pm_D e_X10_lay 68 1 (.iadd) 69 := ⟨by decide +kernel, rfl⟩
theorem d_X10_lay_69 : pm_D e_X10_lay 69 1 (.ireturn) 70 := ⟨by decide +kernel, rfl⟩
theorem d_X10_tear_0 : pm_i e_X10_tear 0 .aload_n .aload 0 1 := Or.inl ⟨0, by decide +kernel, rfl, rfl⟩
theorem d_X10_tear_1 : pm_i e_X10_tear 1 .iload_n .iload 1 2 := Or.inl ⟨1, by decide +kernel, rfl, rfl⟩
theorem d_X10_tear_2 : pm_kV e_X10_tear 2 e_X10_looked RX10 1 5 := ⟨201, by decide +kernel, rfl, fit_X10_tear_X10_looked, wm_1010, Or.inl ⟨wm_1008, wm_35⟩⟩
theorem d_X10_tear_5 : pm_i e_X10_tear 5 .istore_n .istore 2 6 := Or.inl ⟨2, by decide +kernel, rfl, rfl⟩
theorem d_X10_tear_6 : pm_i e_X10_tear 6 .iload_n .iload 2 7 := Or.inl ⟨2, by decide +kernel, rfl, rfl⟩
theorem d_X10_tear_7 : pm_B e_X10_tear 7 (fun z => .ifCond .ge z) 12 10 := ⟨5, by decide +kernel, by decide, rfl⟩
theorem d_X10_tear_10 : pm_i e_X10_tear 10 .iload_n .iload 2 11 := Or.inl ⟨2, by decide +kernel, rfl, rfl⟩
theorem d_X10_tear_11 : pm_D e_X10_tear 11 1 (.ireturn) 12 := ⟨by decide +kernel, rfl⟩
theorem d_X10_tear_12 : pm_i e_X10_tear 12 .aload_n .aload 0 13 := Or.inl ⟨0, by decide +kernel, rfl, rfl⟩
theorem d_X10_tear_13 : pm_F e_X10_tear 13 .getfield (RX10, "sizes", "[I") 16 := ⟨71, by decide +kernel, rfl, Or.inl wm_762⟩
theorem d_X10_tear_16 : pm_i e_X10_tear 16 .iload_n .iload 1 17 := Or.inl ⟨1, by decide +kernel, rfl, rfl⟩
theorem d_X10_tear_17 : pm_P e_X10_tear 17 (-9) 19 := Or.inr <| Or.inl ⟨-9, by decide +kernel, by decide +kernel, rfl⟩
theorem d_X10_tear_19 : pm_D e_X10_tear 19 1 (.iastore) 20 := ⟨by decide +kernel, rfl⟩
theorem d_X10_tear_20 : pm_P e_X10_tear 20 1 21 := Or.inl ⟨1, by decide +kernel, by decide +kernel, rfl⟩
theorem d_X10_tear_21 : pm_D e_X10_tear 21 1 (.ireturn) 22 := ⟨by decide +kernel, rfl⟩
theorem d_X10_copy_0 : pm_i e_X10_copy 0 .iload_n .iload 1 1 := Or.inl ⟨1, by decide +kernel, rfl, rfl⟩
theorem d_X10_copy_1 : pm_kS e_X10_copy 1 e_X10_isRow 1 4 := ⟨198, by decide +kernel, rfl, fit_X10_copy_X10_isRow, wm_1002, Or.inl wm_1001⟩
theorem d_X10_copy_4 : pm_B e_X10_copy 4 (fun z => .ifCond .eq z) 14 7 := ⟨10, by decide +kernel, by decide, rfl⟩
theorem d_X10_copy_7 : pm_i e_X10_copy 7 .iload_n .iload 3 8 := Or.inl ⟨3, by decide +kernel, rfl, rfl⟩
theorem d_X10_copy_8 : pm_kS e_X10_copy 8 e_X10_isRow 1 11 := ⟨198, by decide +kernel, rfl, fit_X10_copy_X10_isRow, wm_1002, Or.inl wm_1001⟩
theorem d_X10_copy_11 : pm_B e_X10_copy 11 (fun z => .ifCond .ne z) 16 14 := ⟨5, by decide +kernel, by decide, rfl⟩
theorem d_X10_copy_14 : pm_P e_X10_copy 14 (-1) 15 := Or.inl ⟨-1, by decide +kernel, by decide +kernel, rfl⟩
theorem d_X10_copy_15 : pm_D e_X10_copy 15 1 (.ireturn) 16 := ⟨by decide +kernel, rfl⟩
theorem d_X10_copy_16 : pm_i e_X10_copy 16 .iload_n .iload 5 18 := Or.inr ⟨by decide +kernel, rfl⟩
theorem d_X10_copy_18 : pm_B e_X10_copy 18 (fun z => .ifCond .ge z) 27 21 := ⟨9, by decide +kernel, by decide, rfl⟩
theorem d_X10_copy_21 : pm_i e_X10_copy 21 .aload_n .aload 0 22 := Or.inl ⟨0, by decide +kernel, rfl, rfl⟩
theorem d_X10_copy_22 : pm_P e_X10_copy 22 5 23 := Or.inl ⟨5, by decide +kernel, by decide +kernel, rfl⟩
theorem d_X10_copy_23 : pm_kV e_X10_copy 23 e_X10_meets RX10 1 26 := ⟨131, by decide +kernel, rfl, fit_X10_copy_X10_meets, wm_881, Or.inl ⟨wm_879, wm_23⟩⟩
theorem d_X10_copy_26 : pm_D e_X10_copy 26 1 (.ireturn) 27 := ⟨by decide +kernel, rfl⟩
theorem d_X10_copy_27 : pm_i e_X10_copy 27 .aload_n .aload 0 28 := Or.inl ⟨0, by decide +kernel, rfl, rfl⟩
theorem d_X10_copy_28 : pm_F e_X10_copy 28 .getfield (RX10, "sizes", "[I") 31 := ⟨71, by decide +kernel, rfl, Or.inl wm_762⟩
theorem d_X10_copy_31 : pm_i e_X10_copy 31 .iload_n .iload 1 32 := Or.inl ⟨1, by decide +kernel, rfl, rfl⟩
theorem d_X10_copy_32 : pm_D e_X10_copy 32 1 (.iaload) 33 := ⟨by decide +kernel, rfl⟩
theorem d_X10_copy_33 : pm_B e_X10_copy 33 (fun z => .ifCond .lt z) 45 36 := ⟨12, by decide +kernel, by decide, rfl⟩
theorem d_X10_copy_36 : pm_i e_X10_copy 36 .aload_n .aload 0 37 := Or.inl ⟨0, by decide +kernel, rfl, rfl⟩
theorem d_X10_copy_37 : pm_F e_X10_copy 37 .getfield (RX10, "sizes", "[I") 40 := ⟨71, by decide +kernel, rfl, Or.inl wm_762⟩
theorem d_X10_copy_40 : pm_i e_X10_copy 40 .iload_n .iload 3 41 := Or.inl ⟨3, by decide +kernel, rfl, rfl⟩
theorem d_X10_copy_41 : pm_D e_X10_copy 41 1 (.iaload) 42 := ⟨by decide +kernel, rfl⟩
theorem d_X10_copy_42 : pm_B e_X10_copy 42 (fun z => .ifCond .ge z) 51 45 := ⟨9, by decide +kernel, by decide, rfl⟩
theorem d_X10_copy_45 : pm_i e_X10_copy 45 .aload_n .aload 0 46 := Or.inl ⟨0, by decide +kernel, rfl, rfl⟩
theorem d_X10_copy_46 : pm_P e_X10_copy 46 1 47 := Or.inl ⟨1, by decide +kernel, by decide +kernel, rfl⟩
theorem d_X10_copy_47 : pm_kV e_X10_copy 47 e_X10_meets RX10 1 50 := ⟨131, by decide +kernel, rfl, fit_X10_copy_X10_meets, wm_881, Or.inl ⟨wm_879, wm_23⟩⟩
theorem d_X10_copy_50 : pm_D e_X10_copy 50 1 (.ireturn) 51 := ⟨by decide +kernel, rfl⟩
theorem d_X10_copy_51 : pm_i e_X10_copy 51 .iload_n .iload 2 52 := Or.inl ⟨2, by decide +kernel, rfl, rfl⟩
theorem d_X10_copy_52 : pm_B e_X10_copy 52 (fun z => .ifCond .lt z) 95 55 := ⟨43, by decide +kernel, by decide, rfl⟩
theorem d_X10_copy_55 : pm_i e_X10_copy 55 .iload_n .iload 4 57 := Or.inr ⟨by decide +kernel, rfl⟩
theorem d_X10_copy_57 : pm_B e_X10_copy 57 (fun z => .ifCond .lt z) 95 60 := ⟨38, by decide +kernel, by decide, rfl⟩
theorem d_X10_copy_60 : pm_i e_X10_copy 60 .iload_n .iload 2 61 := Or.inl ⟨2, by decide +kernel, rfl, rfl⟩
theorem d_X10_copy_61 : pm_D e_X10_copy 61 1 (.i2l) 62 := ⟨by decide +kernel, rfl⟩
theorem d_X10_copy_62 : pm_i e_X10_copy 62 .iload_n .iload 5 64 := Or.inr ⟨by decide +kernel, rfl⟩
theorem d_X10_copy_64 : pm_D e_X10_copy 64 1 (.i2l) 65 := ⟨by decide +kernel, rfl⟩
theorem d_X10_copy_65 : pm_D e_X10_copy 65 1 (.ladd) 66 := ⟨by decide +kernel, rfl⟩
theorem d_X10_copy_66 : pm_i e_X10_copy 66 .aload_n .aload 0 67 := Or.inl ⟨0, by decide +kernel, rfl, rfl⟩
theorem d_X10_copy_67 : pm_F e_X10_copy 67 .getfield (RX10, "sizes", "[I") 70 := ⟨71, by decide +kernel, rfl, Or.inl wm_762⟩
theorem d_X10_copy_70 : pm_i e_X10_copy 70 .iload_n .iload 1 71 := Or.inl ⟨1, by decide +kernel, rfl, rfl⟩
theorem d_X10_copy_71 : pm_D e_X10_copy 71 1 (.iaload) 72 := ⟨by decide +kernel, rfl⟩
theorem d_X10_copy_72 : pm_D e_X10_copy 72 1 (.i2l) 73 := ⟨by decide +kernel, rfl⟩
theorem d_X10_copy_73 : pm_D e_X10_copy 73 1 (.lcmp) 74 := ⟨by decide +kernel, rfl⟩
theorem d_X10_copy_74 : pm_B e_X10_copy 74 (fun z => .ifCond .gt z) 95 77 := ⟨21, by decide +kernel, by decide, rfl⟩
theorem d_X10_copy_77 : pm_i e_X10_copy 77 .iload_n .iload 4 79 := Or.inr ⟨by decide +kernel, rfl⟩
theorem d_X10_copy_79 : pm_D e_X10_copy 79 1 (.i2l) 80 := ⟨by decide +kernel, rfl⟩
theorem d_X10_copy_80 : pm_i e_X10_copy 80 .iload_n .iload 5 82 := Or.inr ⟨by decide +kernel, rfl⟩
theorem d_X10_copy_82 : pm_D e_X10_copy 82 1 (.i2l) 83 := ⟨by decide +kernel, rfl⟩
theorem d_X10_copy_83 : pm_D e_X10_copy 83 1 (.ladd) 84 := ⟨by decide +kernel, rfl⟩
theorem d_X10_copy_84 : pm_i e_X10_copy 84 .aload_n .aload 0 85 := Or.inl ⟨0, by decide +kernel, rfl, rfl⟩
theorem d_X10_copy_85 : pm_F e_X10_copy 85 .getfield (RX10, "sizes", "[I") 88 := ⟨71, by decide +kernel, rfl, Or.inl wm_762⟩
theorem d_X10_copy_88 : pm_i e_X10_copy 88 .iload_n .iload 3 89 := Or.inl ⟨3, by decide +kernel, rfl, rfl⟩
theorem d_X10_copy_89 : pm_D e_X10_copy 89 1 (.iaload) 90 := ⟨by decide +kernel, rfl⟩
theorem d_X10_copy_90 : pm_D e_X10_copy 90 1 (.i2l) 91 := ⟨by decide +kernel, rfl⟩
theorem d_X10_copy_91 : pm_D e_X10_copy 91 1 (.lcmp) 92 := ⟨by decide +kernel, rfl⟩
theorem d_X10_copy_92 : pm_B e_X10_copy 92 (fun z => .ifCond .le z) 101 95 := ⟨9, by decide +kernel, by decide, rfl⟩
theorem d_X10_copy_95 : pm_i e_X10_copy 95 .aload_n .aload 0 96 := Or.inl ⟨0, by decide +kernel, rfl, rfl⟩
theorem d_X10_copy_96 : pm_P e_X10_copy 96 2 97 := Or.inl ⟨2, by decide +kernel, by decide +kernel, rfl⟩
theorem d_X10_copy_97 : pm_kV e_X10_copy 97 e_X10_meets RX10 1 100 := ⟨131, by decide +kernel, rfl, fit_X10_copy_X10_meets, wm_881, Or.inl ⟨wm_879, wm_23⟩⟩
theorem d_X10_copy_100 : pm_D e_X10_copy 100 1 (.ireturn) 101 := ⟨by decide +kernel, rfl⟩
theorem d_X10_copy_101 : pm_P e_X10_copy 101 0 102 := Or.inl ⟨0, by decide +kernel, by decide +kernel, rfl⟩
theorem d_X10_copy_102 : pm_i e_X10_copy 102 .istore_n .istore 6 104 := Or.inr ⟨by decide +kernel, rfl⟩
theorem d_X10_copy_104 : pm_i e_X10_copy 104 .iload_n .iload 6 106 := Or.inr ⟨by decide +kernel, rfl⟩
theorem d_X10_copy_106 : pm_i e_X10_copy 106 .iload_n .iload 5 108 := Or.inr ⟨by decide +kernel, rfl⟩
theorem d_X10_copy_108 : pm_B e_X10_copy 108 (fun z => .if_icmp .ge z) 138 111 := ⟨30, by decide +kernel, by decide, rfl⟩
theorem d_X10_copy_111 : pm_i e_X10_copy 111 .aload_n .aload 0 112 := Or.inl ⟨0, by decide +kernel, rfl, rfl⟩
theorem d_X10_copy_112 : pm_F e_X10_copy 112 .getfield (RX10, "moving", "[I") 115 := ⟨77, by decide +kernel, rfl, Or.inl wm_764⟩
theorem d_X10_copy_115 : pm_i e_X10_copy 115 .iload_n .iload 6 117 := Or.inr ⟨by decide +kernel, rfl⟩
theorem d_X10_copy_117 : pm_i e_X10_copy 117 .aload_n .aload 0 118 := Or.inl ⟨0, by decide +kernel, rfl, rfl⟩
theorem d_X10_copy_118 : pm_F e_X10_copy 118 .getfield (RX10, "rows", "[I") 121 := ⟨74, by decide +kernel, rfl, Or.inl wm_763⟩
theorem d_X10_copy_121 : pm_P e_X10_copy 121 64 123 := Or.inr <| Or.inl ⟨64, by decide +kernel, by decide +kernel, rfl⟩
theorem d_X10_copy_123 : pm_i e_X10_copy 123 .iload_n .iload 1 124 := Or.inl ⟨1, by decide +kernel, rfl, rfl⟩
theorem d_X10_copy_124 : pm_D e_X10_copy 124 1 (.imul) 125 := ⟨by decide +kernel, rfl⟩
theorem d_X10_copy_125 : pm_i e_X10_copy 125 .iload_n .iload 2 126 := Or.inl ⟨2, by decide +kernel, rfl, rfl⟩
theorem d_X10_copy_126 : pm_D e_X10_copy 126 1 (.iadd) 127 := ⟨by decide +kernel, rfl⟩
theorem d_X10_copy_127 : pm_i e_X10_copy 127 .iload_n .iload 6 129 := Or.inr ⟨by decide +kernel, rfl⟩
theorem d_X10_copy_129 : pm_D e_X10_copy 129 1 (.iadd) 130 := ⟨by decide +kernel, rfl⟩
theorem d_X10_copy_130 : pm_D e_X10_copy 130 1 (.iaload) 131 := ⟨by decide +kernel, rfl⟩
theorem d_X10_copy_131 : pm_D e_X10_copy 131 1 (.iastore) 132 := ⟨by decide +kernel, rfl⟩
theorem d_X10_copy_132 : pm_I e_X10_copy 132 6 1 135 := ⟨1, by decide +kernel, by decide +kernel, rfl⟩
theorem d_X10_copy_135 : pm_B e_X10_copy 135 (fun z => .goto z) 104 138 := ⟨-31, by decide +kernel, by decide, rfl⟩
theorem d_X10_copy_138 : pm_P e_X10_copy 138 0 139 := Or.inl ⟨0, by decide +kernel, by decide +kernel, rfl⟩
theorem d_X10_copy_139 : pm_i e_X10_copy 139 .istore_n .istore 6 141 := Or.inr ⟨by decide +kernel, rfl⟩
theorem d_X10_copy_141 : pm_i e_X10_copy 141 .iload_n .iload 6 143 := Or.inr ⟨by decide +kernel, rfl⟩
theorem d_X10_copy_143 : pm_i e_X10_copy 143 .iload_n .iload 5 145 := Or.inr ⟨by decide +kernel, rfl⟩
theorem d_X10_copy_145 : pm_B e_X10_copy 145 (fun z => .if_icmp .ge z) 176 148 := ⟨31, by decide +kernel, by decide, rfl⟩
theorem d_X10_copy_148 : pm_i e_X10_copy 148 .aload_n .aload 0 149 := Or.inl ⟨0, by decide +kernel, rfl, rfl⟩
theorem d_X10_copy_149 : pm_F e_X10_copy 149 .getfield (RX10, "rows", "[I") 152 := ⟨74, by decide +kernel, rfl, Or.inl wm_763⟩
theorem d_X10_copy_152 : pm_P e_X10_copy 152 64 154 := Or.inr <| Or.inl ⟨64, by decide +kernel, by decide +kernel, rfl⟩
theorem d_X10_copy_154 : pm_i e_X10_copy 154 .iload_n .iload 3 155 := Or.inl ⟨3, by decide +kernel, rfl, rfl⟩
theorem d_X10_copy_155 : pm_D e_X10_copy 155 1 (.imul) 156 := ⟨by decide +kernel, rfl⟩
theorem d_X10_copy_156 : pm_i e_X10_copy 156 .iload_n .iload 4 158 := Or.inr ⟨by decide +kernel, rfl⟩
theorem d_X10_copy_158 : pm_D e_X10_copy 158 1 (.iadd) 159 := ⟨by decide +kernel, rfl⟩
theorem d_X10_copy_159 : pm_i e_X10_copy 159 .iload_n .iload 6 161 := Or.inr ⟨by decide +kernel, rfl⟩
theorem d_X10_copy_161 : pm_D e_X10_copy 161 1 (.iadd) 162 := ⟨by decide +kernel, rfl⟩
theorem d_X10_copy_162 : pm_i e_X10_copy 162 .aload_n .aload 0 163 := Or.inl ⟨0, by decide +kernel, rfl, rfl⟩
theorem d_X10_copy_163 : pm_F e_X10_copy 163 .getfield (RX10, "moving", "[I") 166 := ⟨77, by decide +kernel, rfl, Or.inl wm_764⟩
theorem d_X10_copy_166 : pm_i e_X10_copy 166 .iload_n .iload 6 168 := Or.inr ⟨by decide +kernel, rfl⟩
theorem d_X10_copy_168 : pm_D e_X10_copy 168 1 (.iaload) 169 := ⟨by decide +kernel, rfl⟩
theorem d_X10_copy_169 : pm_D e_X10_copy 169 1 (.iastore) 170 := ⟨by decide +kernel, rfl⟩
theorem d_X10_copy_170 : pm_I e_X10_copy 170 6 1 173 := ⟨1, by decide +kernel, by decide +kernel, rfl⟩
theorem d_X10_copy_173 : pm_B e_X10_copy 173 (fun z => .goto z) 141 176 := ⟨-32, by decide +kernel, by decide, rfl⟩
theorem d_X10_copy_176 : pm_P e_X10_copy 176 1 177 := Or.inl ⟨1, by decide +kernel, by decide +kernel, rfl⟩
theorem d_X10_copy_177 : pm_D e_X10_copy 177 1 (.ireturn) 178 := ⟨by decide +kernel, rfl⟩
theorem d_X10_leaf_0 : pm_i e_X10_leaf 0 .aload_n .aload 0 1 := Or.inl ⟨0, by decide +kernel, rfl, rfl⟩
theorem d_X10_leaf_1 : pm_F e_X10_leaf 1 .getfield (RX10, "rows", "[I") 4 := ⟨74, by decide +kernel, rfl, Or.inl wm_763⟩
theorem d_X10_leaf_4 : pm_P e_X10_leaf 4 64 6 := Or.inr <| Or.inl ⟨64, by decide +kernel, by decide +kernel, rfl⟩
theorem d_X10_leaf_6 : pm_i e_X10_leaf 6 .iload_n .iload 1 7 := Or.inl ⟨1, by decide +kernel, rfl, rfl⟩
theorem d_X10_leaf_7 : pm_D e_X10_leaf 7 1 (.imul) 8 := ⟨by decide +kernel, rfl⟩
theorem d_X10_leaf_8 : pm_i e_X10_leaf 8 .iload_n .iload 2 9 := Or.inl ⟨2, by decide +kernel, rfl, rfl⟩
theorem d_X10_leaf_9 : pm_D e_X10_leaf 9 1 (.iadd) 10 := ⟨by decide +kernel, rfl⟩
theorem d_X10_leaf_10 : pm_D e_X10_leaf 10 1 (.iaload) 11 := ⟨by decide +kernel, rfl⟩
theorem d_X10_leaf_11 : pm_D e_X10_leaf 11 1 (.ireturn) 12 := ⟨by decide +kernel, rfl⟩
theorem d_X10_misfitsOf_0 : pm_P e_X10_misfitsOf 0 0 1 := Or.inl ⟨0, by decide +kernel, by decide +kernel, rfl⟩
theorem d_X10_misfitsOf_1 : pm_i e_X10_misfitsOf 1 .istore_n .istore 3 2 := Or.inl ⟨3, by decide +kernel, rfl, rfl⟩
theorem d_X10_misfitsOf_2 : pm_P e_X10_misfitsOf 2 0 3 := Or.inl ⟨0, by decide +kernel, by decide +kernel, rfl⟩
theorem d_X10_misfitsOf_3 : pm_i e_X10_misfitsOf 3 .istore_n .istore 4 5 := Or.inr ⟨by decide +kernel, rfl⟩
theorem d_X10_misfitsOf_5 : pm_i e_X10_misfitsOf 5 .iload_n .iload 4 7 := Or.inr ⟨by decide +kernel, rfl⟩
theorem d_X10_misfitsOf_7 : pm_i e_X10_misfitsOf 7 .aload_n .aload 0 8 := Or.inl ⟨0, by decide +kernel, rfl, rfl⟩
theorem d_X10_misfitsOf_8 : pm_F e_X10_misfitsOf 8 .getfield (RX10, "sizes", "[I") 11 := ⟨71, by decide +kernel, rfl, Or.inl wm_762⟩
theorem d_X10_misfitsOf_11 : pm_i e_X10_misfitsOf 11 .iload_n .iload 1 12 := Or.inl ⟨1, by decide +kernel, rfl, rfl⟩
theorem d_X10_misfitsOf_12 : pm_D e_X10_misfitsOf 12 1 (.iaload) 13 := ⟨by decide +kernel, rfl⟩
theorem d_X10_misfitsOf_13 : pm_B e_X10_misfitsOf 13 (fun z => .if_icmp .ge z) 166 16 := ⟨153, by decide +kernel, by decide, rfl⟩
theorem d_X10_misfitsOf_16 : pm_i e_X10_misfitsOf 16 .aload_n .aload 0 17 := Or.inl ⟨0, by decide +kernel, rfl, rfl⟩
theorem d_X10_misfitsOf_17 : pm_i e_X10_misfitsOf 17 .iload_n .iload 1 18 := Or.inl ⟨1, by decide +kernel, rfl, rfl⟩
theorem d_X10_misfitsOf_18 : pm_i e_X10_misfitsOf 18 .iload_n .iload 4 20 := Or.inr ⟨by decide +kernel, rfl⟩
theorem d_X10_misfitsOf_20 : pm_kV e_X10_misfitsOf 20 e_X10_leaf RX10 2 23 := ⟨204, by decide +kernel, rfl, fit_X10_misfitsOf_X10_leaf, wm_1030, Or.inl ⟨wm_1028, wm_37⟩⟩
theorem d_X10_misfitsOf_23 : pm_i e_X10_misfitsOf 23 .istore_n .istore 5 25 := Or.inr ⟨by decide +kernel, rfl⟩
theorem d_X10_misfitsOf_25 : pm_i e_X10_misfitsOf 25 .iload_n .iload 2 26 := Or.inl ⟨2, by decide +kernel, rfl, rfl⟩
theorem d_X10_misfitsOf_26 : pm_P e_X10_misfitsOf 26 2 27 := Or.inl ⟨2, by decide +kernel, by decide +kernel, rfl⟩
theorem d_X10_misfitsOf_27 : pm_B e_X10_misfitsOf 27 (fun z => .if_icmp .ge z) 71 30 := ⟨44, by decide +kernel, by decide, rfl⟩
theorem d_X10_misfitsOf_30 : pm_i e_X10_misfitsOf 30 .iload_n .iload 3 31 := Or.inl ⟨3, by decide +kernel, rfl, rfl⟩
theorem d_X10_misfitsOf_31 : pm_i e_X10_misfitsOf 31 .iload_n .iload 5 33 := Or.inr ⟨by decide +kernel, rfl⟩
theorem d_X10_misfitsOf_33 : pm_P e_X10_misfitsOf 33 0 34 := Or.inl ⟨0, by decide +kernel, by decide +kernel, rfl⟩
theorem d_X10_misfitsOf_34 : pm_P e_X10_misfitsOf 34 63 36 := Or.inr <| Or.inl ⟨63, by decide +kernel, by decide +kernel, rfl⟩
theorem d_X10_misfitsOf_36 : pm_kS e_X10_misfitsOf 36 e_X10_in 3 39 := ⟨106, by decide +kernel, rfl, fit_X10_misfitsOf_X10_in, wm_853, Or.inl wm_852⟩
theorem d_X10_misfitsOf_39 : pm_B e_X10_misfitsOf 39 (fun z => .ifCond .eq z) 65 42 := ⟨26, by decide +kernel, by decide, rfl⟩
theorem d_X10_misfitsOf_42 : pm_i e_X10_misfitsOf 42 .iload_n .iload 5 44 := Or.inr ⟨by decide +kernel, rfl⟩
theorem d_X10_misfitsOf_44 : pm_i e_X10_misfitsOf 44 .iload_n .iload 2 45 := Or.inl ⟨2, by decide +kernel, rfl, rfl⟩
theorem d_X10_misfitsOf_45 : pm_B e_X10_misfitsOf 45 (fun z => .ifCond .ne z) 53 48 := ⟨8, by decide +kernel, by decide, rfl⟩
theorem d_X10_misfitsOf_48 : pm_i e_X10_misfitsOf 48 .iload_n .iload 4 50 := Or.inr ⟨by decide +kernel, rfl⟩
theorem d_X10_misfitsOf_50 : pm_B e_X10_misfitsOf 50 (fun z => .goto z) 58 53 := ⟨8, by decide +kernel, by decide, rfl⟩
theorem d_X10_misfitsOf_53 : pm_i e_X10_misfitsOf 53 .iload_n .iload 4 55 := Or.inr ⟨by decide +kernel, rfl⟩
theorem d_X10_misfitsOf_55 : pm_kS e_X10_misfitsOf 55 e_X10_turned 1 58 := ⟨192, by decide +kernel, rfl, fit_X10_misfitsOf_X10_turned, wm_991, Or.inl wm_990⟩
theorem d_X10_misfitsOf_58 : pm_B e_X10_misfitsOf 58 (fun z => .if_icmp .eq z) 65 61 := ⟨7, by decide +kernel, by decide, rfl⟩
theorem d_X10_misfitsOf_61 : pm_P e_X10_misfitsOf 61 1 62 := Or.inl ⟨1, by decide +kernel, by decide +kernel, rfl⟩
theorem d_X10_misfitsOf_62 : pm_B e_X10_misfitsOf 62 (fun z => .goto z) 66 65 := ⟨4, by decide +kernel, by decide, rfl⟩
theorem d_X10_misfitsOf_65 : pm_P e_X10_misfitsOf 65 0 66 := Or.inl ⟨0, by decide +kernel, by decide +kernel, rfl⟩
theorem d_X10_misfitsOf_66 : pm_D e_X10_misfitsOf 66 1 (.iadd) 67 := ⟨by decide +kernel, rfl⟩
theorem d_X10_misfitsOf_67 : pm_i e_X10_misfitsOf 67 .istore_n .istore 3 68 := Or.inl ⟨3, by decide +kernel, rfl, rfl⟩
theorem d_X10_misfitsOf_68 : pm_B e_X10_misfitsOf 68 (fun z => .goto z) 160 71 := ⟨92, by decide +kernel, by decide, rfl⟩
theorem d_X10_misfitsOf_71 : pm_i e_X10_misfitsOf 71 .iload_n .iload 4 73 := Or.inr ⟨by decide +kernel, rfl⟩
theorem d_X10_misfitsOf_73 : pm_P e_X10_misfitsOf 73 2 74 := Or.inl ⟨2, by decide +kernel, by decide +kernel, rfl⟩
theorem d_X10_misfitsOf_74 : pm_D e_X10_misfitsOf 74 1 (.irem) 75 := ⟨by decide +kernel, rfl⟩
theorem d_X10_misfitsOf_75 : pm_P e_X10_misfitsOf 75 1 76 := Or.inl ⟨1, by decide +kernel, by decide +kernel, rfl⟩
theorem d_X10_misfitsOf_76 : pm_B e_X10_misfitsOf 76 (fun z => .if_icmp .ne z) 160 79 := ⟨84, by decide +kernel, by decide, rfl⟩
theorem d_X10_misfitsOf_79 : pm_i e_X10_misfitsOf 79 .aload_n .aload 0 80 := Or.inl ⟨0, by decide +kernel, rfl, rfl⟩
theorem d_X10_misfitsOf_80 : pm_i e_X10_misfitsOf 80 .iload_n .iload 1 81 := Or.inl ⟨1, by decide +kernel, rfl, rfl⟩
theorem d_X10_misfitsOf_81 : pm_i e_X10_misfitsOf 81 .iload_n .iload 4 83 := Or.inr ⟨by decide +kernel, rfl⟩
theorem d_X10_misfitsOf_83 : pm_P e_X10_misfitsOf 83 1 84 := Or.inl ⟨1, by decide +kernel, by decide +kernel, rfl⟩
theorem d_X10_misfitsOf_84 : pm_D e_X10_misfitsOf 84 1 (.isub) 85 := ⟨by decide +kernel, rfl⟩
theorem d_X10_misfitsOf_85 : pm_kV e_X10_misfitsOf 85 e_X10_leaf RX10 2 88 := ⟨204, by decide +kernel, rfl, fit_X10_misfitsOf_X10_leaf, wm_1030, Or.inl ⟨wm_1028, wm_37⟩⟩
theorem d_X10_misfitsOf_88 : pm_i e_X10_misfitsOf 88 .istore_n .istore 6 90 := Or.inr ⟨by decide +kernel, rfl⟩
theorem d_X10_misfitsOf_90 : pm_i e_X10_misfitsOf 90 .iload_n .iload 5 92 := Or.inr ⟨by decide +kernel, rfl⟩
theorem d_X10_misfitsOf_92 : pm_P e_X10_misfitsOf 92 0 93 := Or.inl ⟨0, by decide +kernel, by decide +kernel, rfl⟩
theorem d_X10_misfitsOf_93 : pm_P e_X10_misfitsOf 93 63 95 := Or.inr <| Or.inl ⟨63, by decide +kernel, by decide +kernel, rfl⟩
theorem d_X10_misfitsOf_95 : pm_kS e_X10_misfitsOf 95 e_X10_in 3 98 := ⟨106, by decide +kernel, rfl, fit_X10_misfitsOf_X10_in, wm_853, Or.inl wm_852⟩
theorem d_X10_misfitsOf_98 : pm_B e_X10_misfitsOf 98 (fun z => .ifCond .eq z) 116 101 := ⟨18, by decide +kernel, by decide, rfl⟩
theorem d_X10_misfitsOf_101 : pm_i e_X10_misfitsOf 101 .iload_n .iload 6 103 := Or.inr ⟨by decide +kernel, rfl⟩
theorem d_X10_misfitsOf_103 : pm_P e_X10_misfitsOf 103 0 104 := Or.inl ⟨0, by decide +kernel, by decide +kernel, rfl⟩
theorem d_X10_misfitsOf_104 : pm_P e_X10_misfitsOf 104 63 106 := Or.inr <| Or.inl ⟨63, by decide +kernel, by decide +kernel, rfl⟩
theorem d_X10_misfitsOf_106 : pm_kS e_X10_misfitsOf 106 e_X10_in 3 109 := ⟨106, by decide +kernel, rfl, fit_X10_misfitsOf_X10_in, wm_853, Or.inl wm_852⟩
theorem d_X10_misfitsOf_109 : pm_B e_X10_misfitsOf 109 (fun z => .ifCond .eq z) 116 112 := ⟨7, by decide +kernel, by decide, rfl⟩
theorem d_X10_misfitsOf_112 : pm_P e_X10_misfitsOf 112 1 113 := Or.inl ⟨1, by decide +kernel, by decide +kernel, rfl⟩
theorem d_X10_misfitsOf_113 : pm_B e_X10_misfitsOf 113 (fun z => .goto z) 117 116 := ⟨4, by decide +kernel, by decide, rfl⟩
theorem d_X10_misfitsOf_116 : pm_P e_X10_misfitsOf 116 0 117 := Or.inl ⟨0, by decide +kernel, by decide +kernel, rfl⟩
theorem d_X10_misfitsOf_117 : pm_i e_X10_misfitsOf 117 .istore_n .istore 7 119 := Or.inr ⟨by decide +kernel, rfl⟩
theorem d_X10_misfitsOf_119 : pm_i e_X10_misfitsOf 119 .iload_n .iload 3 120 := Or.inl ⟨3, by decide +kernel, rfl, rfl⟩
theorem d_X10_misfitsOf_120 : pm_i e_X10_misfitsOf 120 .iload_n .iload 7 122 := Or.inr ⟨by decide +kernel, rfl⟩
theorem d_X10_misfitsOf_122 : pm_B e_X10_misfitsOf 122 (fun z => .ifCond .eq z) 157 125 := ⟨35, by decide +kernel, by decide, rfl⟩
theorem d_X10_misfitsOf_125 : pm_i e_X10_misfitsOf 125 .iload_n .iload 5 127 := Or.inr ⟨by decide +kernel, rfl⟩
theorem d_X10_misfitsOf_127 : pm_i e_X10_misfitsOf 127 .iload_n .iload 6 129 := Or.inr ⟨by decide +kernel, rfl⟩
theorem d_X10_misfitsOf_129 : pm_kS e_X10_misfitsOf 129 e_X10_turned 1 132 := ⟨192, by decide +kernel, rfl, fit_X10_misfitsOf_X10_turned, wm_991, Or.inl wm_990⟩
theorem d_X10_misfitsOf_132 : pm_i e_X10_misfitsOf 132 .iload_n .iload 6 134 := Or.inr ⟨by decide +kernel, rfl⟩
theorem d_X10_misfitsOf_134 : pm_B e_X10_misfitsOf 134 (fun z => .if_icmp .ne z) 145 137 := ⟨11, by decide +kernel, by decide, rfl⟩
theorem d_X10_misfitsOf_137 : pm_P e_X10_misfitsOf 137 63 139 := Or.inr <| Or.inl ⟨63, by decide +kernel, by decide +kernel, rfl⟩
theorem d_X10_misfitsOf_139 : pm_i e_X10_misfitsOf 139 .iload_n .iload 6 141 := Or.inr ⟨by decide +kernel, rfl⟩
theorem d_X10_misfitsOf_141 : pm_D e_X10_misfitsOf 141 1 (.isub) 142 := ⟨by decide +kernel, rfl⟩
theorem d_X10_misfitsOf_142 : pm_B e_X10_misfitsOf 142 (fun z => .goto z) 150 145 := ⟨8, by decide +kernel, by decide, rfl⟩
theorem d_X10_misfitsOf_145 : pm_i e_X10_misfitsOf 145 .iload_n .iload 6 147 := Or.inr ⟨by decide +kernel, rfl⟩
theorem d_X10_misfitsOf_147 : pm_kS e_X10_misfitsOf 147 e_X10_turned 1 150 := ⟨192, by decide +kernel, rfl, fit_X10_misfitsOf_X10_turned, wm_991, Or.inl wm_990⟩
theorem d_X10_misfitsOf_150 : pm_B e_X10_misfitsOf 150 (fun z => .if_icmp .eq z) 157 153 := ⟨7, by decide +kernel, by decide, rfl⟩
theorem d_X10_misfitsOf_153 : pm_P e_X10_misfitsOf 153 1 154 := Or.inl ⟨1, by decide +kernel, by decide +kernel, rfl⟩
theorem d_X10_misfitsOf_154 : pm_B e_X10_misfitsOf 154 (fun z => .goto z) 158 157 := ⟨4, by decide +kernel, by decide, rfl⟩
theorem d_X10_misfitsOf_157 : pm_P e_X10_misfitsOf 157 0 158 := Or.inl ⟨0, by decide +kernel, by decide +kernel, rfl⟩
theorem d_X10_misfitsOf_158 : pm_D e_X10_misfitsOf 158 1 (.iadd) 159 := ⟨by decide +kernel, rfl⟩
theorem d_X10_misfitsOf_159 : pm_i e_X10_misfitsOf 159 .istore_n .istore 3 160 := Or.inl ⟨3, by decide +kernel, rfl, rfl⟩
theorem d_X10_misfitsOf_160 : pm_I e_X10_misfitsOf 160 4 1 163 := ⟨1, by decide +kernel, by decide +kernel, rfl⟩
theorem d_X10_misfitsOf_163 : pm_B e_X10_misfitsOf 163 (fun z => .goto z) 5 166 := ⟨-158, by decide +kernel, by decide, rfl⟩
theorem d_X10_misfitsOf_166 : pm_i e_X10_misfitsOf 166 .iload_n .iload 3 167 := Or.inl ⟨3, by decide +kernel, rfl, rfl⟩
theorem d_X10_misfitsOf_167 : pm_D e_X10_misfitsOf 167 1 (.ireturn) 168 := ⟨by decide +kernel, rfl⟩
theorem d_X10_misfits_0 : pm_i e_X10_misfits 0 .iload_n .iload 2 1 := Or.inl ⟨2, by decide +kernel, rfl, rfl⟩
theorem d_X10_misfits_1 : pm_P e_X10_misfits 1 0 2 := Or.inl ⟨0, by decide +kernel, by decide +kernel, rfl⟩
theorem d_X10_misfits_2 : pm_P e_X10_misfits 2 2 3 := Or.inl ⟨2, by decide +kernel, by decide +kernel, rfl⟩
theorem d_X10_misfits_3 : pm_kS e_X10_misfits 3 e_X10_in 3 6 := ⟨106, by decide +kernel, rfl, fit_X10_misfits_X10_in, wm_853, Or.inl wm_852⟩
theorem d_X10_misfits_6 : pm_B e_X10_misfits 6 (fun z => .ifCond .ne z) 11 9 := ⟨5, by decide +kernel, by decide, rfl⟩
theorem d_X10_misfits_9 : pm_P e_X10_misfits 9 (-1) 10 := Or.inl ⟨-1, by decide +kernel, by decide +kernel, rfl⟩
theorem d_X10_misfits_10 : pm_D e_X10_misfits 10 1 (.ireturn) 11 := ⟨by decide +kernel, rfl⟩
theorem d_X10_misfits_11 : pm_i e_X10_misfits 11 .aload_n .aload 0 12 := Or.inl ⟨0, by decide +kernel, rfl, rfl⟩
theorem d_X10_misfits_12 : pm_i e_X10_misfits 12 .iload_n .iload 1 13 := Or.inl ⟨1, by decide +kernel, rfl, rfl⟩
theorem d_X10_misfits_13 : pm_kV e_X10_misfits 13 e_X10_looked RX10 1 16 := ⟨201, by decide +kernel, rfl, fit_X10_misfits_X10_looked, wm_1010, Or.inl ⟨wm_1008, wm_35⟩⟩
theorem d_X10_misfits_16 : pm_i e_X10_misfits 16 .istore_n .istore 3 17 := Or.inl ⟨3, by decide +kernel, rfl, rfl⟩
theorem d_X10_misfits_17 : pm_i e_X10_misfits 17 .iload_n .iload 3 18 := Or.inl ⟨3, by decide +kernel, rfl, rfl⟩
