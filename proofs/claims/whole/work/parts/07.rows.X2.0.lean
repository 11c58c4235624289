theorem d_X2_init_0 : pm_i e_X2_init 0 .aload_n .aload 0 1 := Or.inl ⟨0, by decide +kernel, rfl, rfl⟩
theorem d_X2_init_1 : pm_kI e_X2_init 1 e_X1_init 0 4 := ⟨3, by decide +kernel, rfl, fit_X2_init_X1_init, rfl, rfl, wm_217, Or.inr ⟨_, wm_216⟩⟩
theorem d_X2_init_4 : pm_D e_X2_init 4 1 (.return_) 5 := ⟨by decide +kernel, rfl⟩
theorem d_X2_tell_0 : pm_i e_X2_tell 0 .iload_n .iload 1 1 := Or.inl ⟨1, by decide +kernel, rfl, rfl⟩
theorem d_X2_tell_1 : pm_B e_X2_tell 1 (fun z => .ifCond .ne z) 8 4 := ⟨7, by decide +kernel, by decide, rfl⟩
theorem d_X2_tell_4 : pm_P e_X2_tell 4 2 5 := Or.inl ⟨2, by decide +kernel, by decide +kernel, rfl⟩
theorem d_X2_tell_5 : pm_B e_X2_tell 5 (fun z => .goto z) 10 8 := ⟨5, by decide +kernel, by decide, rfl⟩
theorem d_X2_tell_8 : pm_P e_X2_tell 8 (-9) 10 := Or.inr <| Or.inl ⟨-9, by decide +kernel, by decide +kernel, rfl⟩
theorem d_X2_tell_10 : pm_D e_X2_tell 10 1 (.ireturn) 11 := ⟨by decide +kernel, rfl⟩
theorem d_X2_castLine_0 : pm_i e_X2_castLine 0 .aload_n .aload 1 1 := Or.inl ⟨1, by decide +kernel, rfl, rfl⟩
theorem d_X2_castLine_1 : pm_P e_X2_castLine 1 8 3 := Or.inr <| Or.inl ⟨8, by decide +kernel, by decide +kernel, rfl⟩
theorem d_X2_castLine_3 : pm_kV e_X2_castLine 3 e_X5_nextBelow RX5 1 6 := ⟨9, by decide +kernel, rfl, fit_X2_castLine_X5_nextBelow, wm_451, Or.inl ⟨wm_450, wm_452⟩⟩
theorem d_X2_castLine_6 : pm_i e_X2_castLine 6 .istore_n .istore 2 7 := Or.inl ⟨2, by decide +kernel, rfl, rfl⟩
theorem d_X2_castLine_7 : pm_i e_X2_castLine 7 .iload_n .iload 2 8 := Or.inl ⟨2, by decide +kernel, rfl, rfl⟩
theorem d_X2_castLine_8 : pm_B e_X2_castLine 8 (fun z => .ifCond .ne z) 14 11 := ⟨6, by decide +kernel, by decide, rfl⟩
theorem d_X2_castLine_11 : pm_P e_X2_castLine 11 6 13 := Or.inr <| Or.inl ⟨6, by decide +kernel, by decide +kernel, rfl⟩
theorem d_X2_castLine_13 : pm_D e_X2_castLine 13 1 (.ireturn) 14 := ⟨by decide +kernel, rfl⟩
theorem d_X2_castLine_14 : pm_i e_X2_castLine 14 .iload_n .iload 2 15 := Or.inl ⟨2, by decide +kernel, rfl, rfl⟩
theorem d_X2_castLine_15 : pm_P e_X2_castLine 15 3 16 := Or.inl ⟨3, by decide +kernel, by decide +kernel, rfl⟩
theorem d_X2_castLine_16 : pm_B e_X2_castLine 16 (fun z => .if_icmp .gt z) 22 19 := ⟨6, by decide +kernel, by decide, rfl⟩
theorem d_X2_castLine_19 : pm_P e_X2_castLine 19 7 21 := Or.inr <| Or.inl ⟨7, by decide +kernel, by decide +kernel, rfl⟩
theorem d_X2_castLine_21 : pm_D e_X2_castLine 21 1 (.ireturn) 22 := ⟨by decide +kernel, rfl⟩
theorem d_X2_castLine_22 : pm_i e_X2_castLine 22 .iload_n .iload 2 23 := Or.inl ⟨2, by decide +kernel, rfl, rfl⟩
theorem d_X2_castLine_23 : pm_P e_X2_castLine 23 6 25 := Or.inr <| Or.inl ⟨6, by decide +kernel, by decide +kernel, rfl⟩
theorem d_X2_castLine_25 : pm_B e_X2_castLine 25 (fun z => .if_icmp .gt z) 33 28 := ⟨8, by decide +kernel, by decide, rfl⟩
theorem d_X2_castLine_28 : pm_P e_X2_castLine 28 8 30 := Or.inr <| Or.inl ⟨8, by decide +kernel, by decide +kernel, rfl⟩
theorem d_X2_castLine_30 : pm_B e_X2_castLine 30 (fun z => .goto z) 35 33 := ⟨5, by decide +kernel, by decide, rfl⟩
theorem d_X2_castLine_33 : pm_P e_X2_castLine 33 9 35 := Or.inr <| Or.inl ⟨9, by decide +kernel, by decide +kernel, rfl⟩
theorem d_X2_castLine_35 : pm_D e_X2_castLine 35 1 (.ireturn) 36 := ⟨by decide +kernel, rfl⟩
theorem d_X2_weigh_0 : pm_i e_X2_weigh 0 .aload_n .aload 1 1 := Or.inl ⟨1, by decide +kernel, rfl, rfl⟩
theorem d_X2_weigh_1 : pm_PL e_X2_weigh 1 8 4 := Or.inr ⟨15, by decide +kernel, wm_381, rfl⟩
theorem d_X2_weigh_4 : pm_kV e_X2_weigh 4 e_X4_begin RX4 1 7 := ⟨17, by decide +kernel, rfl, fit_X2_weigh_X4_begin, wm_383, Or.inl ⟨wm_382, wm_384⟩⟩
theorem d_X2_weigh_7 : pm_i e_X2_weigh 7 .aload_n .aload 1 8 := Or.inl ⟨1, by decide +kernel, rfl, rfl⟩
theorem d_X2_weigh_8 : pm_F e_X2_weigh 8 .getfield (RX4, "weights", "[J") 11 := ⟨23, by decide +kernel, rfl, Or.inr ⟨_, wm_126⟩⟩
theorem d_X2_weigh_11 : pm_P e_X2_weigh 11 6 13 := Or.inr <| Or.inl ⟨6, by decide +kernel, by decide +kernel, rfl⟩
theorem d_X2_weigh_13 : pm_PL e_X2_weigh 13 1 14 := Or.inl ⟨1, by decide +kernel, by decide +kernel, rfl⟩
theorem d_X2_weigh_14 : pm_D e_X2_weigh 14 1 (.lastore) 15 := ⟨by decide +kernel, rfl⟩
theorem d_X2_weigh_15 : pm_i e_X2_weigh 15 .aload_n .aload 1 16 := Or.inl ⟨1, by decide +kernel, rfl, rfl⟩
theorem d_X2_weigh_16 : pm_F e_X2_weigh 16 .getfield (RX4, "weights", "[J") 19 := ⟨23, by decide +kernel, rfl, Or.inr ⟨_, wm_126⟩⟩
theorem d_X2_weigh_19 : pm_P e_X2_weigh 19 7 21 := Or.inr <| Or.inl ⟨7, by decide +kernel, by decide +kernel, rfl⟩
theorem d_X2_weigh_21 : pm_PL e_X2_weigh 21 3 24 := Or.inr ⟨27, by decide +kernel, wm_389, rfl⟩
theorem d_X2_weigh_24 : pm_D e_X2_weigh 24 1 (.lastore) 25 := ⟨by decide +kernel, rfl⟩
theorem d_X2_weigh_25 : pm_i e_X2_weigh 25 .aload_n .aload 1 26 := Or.inl ⟨1, by decide +kernel, rfl, rfl⟩
theorem d_X2_weigh_26 : pm_F e_X2_weigh 26 .getfield (RX4, "weights", "[J") 29 := ⟨23, by decide +kernel, rfl, Or.inr ⟨_, wm_126⟩⟩
theorem d_X2_weigh_29 : pm_P e_X2_weigh 29 8 31 := Or.inr <| Or.inl ⟨8, by decide +kernel, by decide +kernel, rfl⟩
theorem d_X2_weigh_31 : pm_PL e_X2_weigh 31 3 34 := Or.inr ⟨27, by decide +kernel, wm_389, rfl⟩
theorem d_X2_weigh_34 : pm_D e_X2_weigh 34 1 (.lastore) 35 := ⟨by decide +kernel, rfl⟩
theorem d_X2_weigh_35 : pm_i e_X2_weigh 35 .aload_n .aload 1 36 := Or.inl ⟨1, by decide +kernel, rfl, rfl⟩
theorem d_X2_weigh_36 : pm_F e_X2_weigh 36 .getfield (RX4, "weights", "[J") 39 := ⟨23, by decide +kernel, rfl, Or.inr ⟨_, wm_126⟩⟩
theorem d_X2_weigh_39 : pm_P e_X2_weigh 39 9 41 := Or.inr <| Or.inl ⟨9, by decide +kernel, by decide +kernel, rfl⟩
theorem d_X2_weigh_41 : pm_PL e_X2_weigh 41 1 42 := Or.inl ⟨1, by decide +kernel, by decide +kernel, rfl⟩
theorem d_X2_weigh_42 : pm_D e_X2_weigh 42 1 (.lastore) 43 := ⟨by decide +kernel, rfl⟩
theorem d_X2_weigh_43 : pm_D e_X2_weigh 43 1 (.return_) 44 := ⟨by decide +kernel, rfl⟩
