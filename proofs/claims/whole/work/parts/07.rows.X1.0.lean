theorem d_X1_init_0 : pm_i e_X1_init 0 .aload_n .aload 0 1 := Or.inl ⟨0, by decide +kernel, rfl, rfl⟩
theorem d_X1_init_1 : pm_D e_X1_init 1 3 (.invokespecial 3) 4 := ⟨by decide +kernel, rfl⟩
theorem d_X1_init_4 : pm_D e_X1_init 4 1 (.return_) 5 := ⟨by decide +kernel, rfl⟩
theorem d_X1_tell_0 : pm_i e_X1_tell 0 .iload_n .iload 1 1 := Or.inl ⟨1, by decide +kernel, rfl, rfl⟩
theorem d_X1_tell_1 : pm_B e_X1_tell 1 (fun z => .ifCond .ne z) 8 4 := ⟨7, by decide +kernel, by decide, rfl⟩
theorem d_X1_tell_4 : pm_P e_X1_tell 4 0 5 := Or.inl ⟨0, by decide +kernel, by decide +kernel, rfl⟩
theorem d_X1_tell_5 : pm_B e_X1_tell 5 (fun z => .goto z) 10 8 := ⟨5, by decide +kernel, by decide, rfl⟩
theorem d_X1_tell_8 : pm_P e_X1_tell 8 (-9) 10 := Or.inr <| Or.inl ⟨-9, by decide +kernel, by decide +kernel, rfl⟩
theorem d_X1_tell_10 : pm_D e_X1_tell 10 1 (.ireturn) 11 := ⟨by decide +kernel, rfl⟩
theorem d_X1_castLine_0 : pm_P e_X1_castLine 0 7 2 := Or.inr <| Or.inl ⟨7, by decide +kernel, by decide +kernel, rfl⟩
theorem d_X1_castLine_2 : pm_D e_X1_castLine 2 1 (.ireturn) 3 := ⟨by decide +kernel, rfl⟩
theorem d_X1_weigh_0 : pm_i e_X1_weigh 0 .aload_n .aload 1 1 := Or.inl ⟨1, by decide +kernel, rfl, rfl⟩
theorem d_X1_weigh_1 : pm_PL e_X1_weigh 1 1 2 := Or.inl ⟨1, by decide +kernel, by decide +kernel, rfl⟩
theorem d_X1_weigh_2 : pm_kV e_X1_weigh 2 e_X4_begin RX4 1 5 := ⟨9, by decide +kernel, rfl, fit_X1_weigh_X4_begin, wm_383, Or.inl ⟨wm_423, wm_384⟩⟩
theorem d_X1_weigh_5 : pm_i e_X1_weigh 5 .aload_n .aload 1 6 := Or.inl ⟨1, by decide +kernel, rfl, rfl⟩
theorem d_X1_weigh_6 : pm_F e_X1_weigh 6 .getfield (RX4, "weights", "[J") 9 := ⟨15, by decide +kernel, rfl, Or.inr ⟨_, wm_125⟩⟩
theorem d_X1_weigh_9 : pm_P e_X1_weigh 9 7 11 := Or.inr <| Or.inl ⟨7, by decide +kernel, by decide +kernel, rfl⟩
theorem d_X1_weigh_11 : pm_PL e_X1_weigh 11 1 12 := Or.inl ⟨1, by decide +kernel, by decide +kernel, rfl⟩
theorem d_X1_weigh_12 : pm_D e_X1_weigh 12 1 (.lastore) 13 := ⟨by decide +kernel, rfl⟩
theorem d_X1_weigh_13 : pm_D e_X1_weigh 13 1 (.return_) 14 := ⟨by decide +kernel, rfl⟩
