theorem d_X7_init_0 : pm_i e_X7_init 0 .aload_n .aload 0 1 := Or.inl ⟨0, by decide +kernel, rfl, rfl⟩
theorem d_X7_init_1 : pm_i e_X7_init 1 .iload_n .iload 1 2 := Or.inl ⟨1, by decide +kernel, rfl, rfl⟩
theorem d_X7_init_2 : pm_i e_X7_init 2 .iload_n .iload 2 3 := Or.inl ⟨2, by decide +kernel, rfl, rfl⟩
theorem d_X7_init_3 : pm_i e_X7_init 3 .iload_n .iload 3 4 := Or.inl ⟨3, by decide +kernel, rfl, rfl⟩
theorem d_X7_init_4 : pm_kI e_X7_init 4 e_X6_init 3 7 := ⟨3, by decide +kernel, rfl, fit_X7_init_X6_init, rfl, rfl, wm_238, Or.inl wm_261⟩
theorem d_X7_init_7 : pm_i e_X7_init 7 .aload_n .aload 0 8 := Or.inl ⟨0, by decide +kernel, rfl, rfl⟩
theorem d_X7_init_8 : pm_i e_X7_init 8 .iload_n .iload 4 10 := Or.inr ⟨by decide +kernel, rfl⟩
theorem d_X7_init_10 : pm_F e_X7_init 10 .putfield (RX7, "lo", "I") 13 := ⟨9, by decide +kernel, rfl, Or.inl wm_262⟩
theorem d_X7_init_13 : pm_i e_X7_init 13 .aload_n .aload 0 14 := Or.inl ⟨0, by decide +kernel, rfl, rfl⟩
theorem d_X7_init_14 : pm_i e_X7_init 14 .iload_n .iload 5 16 := Or.inr ⟨by decide +kernel, rfl⟩
theorem d_X7_init_16 : pm_F e_X7_init 16 .putfield (RX7, "hi", "I") 19 := ⟨15, by decide +kernel, rfl, Or.inl wm_263⟩
theorem d_X7_init_19 : pm_D e_X7_init 19 1 (.return_) 20 := ⟨by decide +kernel, rfl⟩
theorem d_X7_kind_0 : pm_P e_X7_kind 0 3 1 := Or.inl ⟨3, by decide +kernel, by decide +kernel, rfl⟩
theorem d_X7_kind_1 : pm_D e_X7_kind 1 1 (.ireturn) 2 := ⟨by decide +kernel, rfl⟩
theorem d_X7_firstPlace_0 : pm_i e_X7_firstPlace 0 .aload_n .aload 0 1 := Or.inl ⟨0, by decide +kernel, rfl, rfl⟩
theorem d_X7_firstPlace_1 : pm_F e_X7_firstPlace 1 .getfield (RX7, "lo", "I") 4 := ⟨9, by decide +kernel, rfl, Or.inl wm_262⟩
theorem d_X7_firstPlace_4 : pm_i e_X7_firstPlace 4 .iload_n .iload 1 5 := Or.inl ⟨1, by decide +kernel, rfl, rfl⟩
theorem d_X7_firstPlace_5 : pm_B e_X7_firstPlace 5 (fun z => .if_icmp .ge z) 15 8 := ⟨10, by decide +kernel, by decide, rfl⟩
theorem d_X7_firstPlace_8 : pm_i e_X7_firstPlace 8 .aload_n .aload 0 9 := Or.inl ⟨0, by decide +kernel, rfl, rfl⟩
theorem d_X7_firstPlace_9 : pm_F e_X7_firstPlace 9 .getfield (RX7, "lo", "I") 12 := ⟨9, by decide +kernel, rfl, Or.inl wm_262⟩
theorem d_X7_firstPlace_12 : pm_B e_X7_firstPlace 12 (fun z => .goto z) 18 15 := ⟨6, by decide +kernel, by decide, rfl⟩
theorem d_X7_firstPlace_15 : pm_i e_X7_firstPlace 15 .iload_n .iload 1 16 := Or.inl ⟨1, by decide +kernel, rfl, rfl⟩
theorem d_X7_firstPlace_16 : pm_P e_X7_firstPlace 16 1 17 := Or.inl ⟨1, by decide +kernel, by decide +kernel, rfl⟩
theorem d_X7_firstPlace_17 : pm_D e_X7_firstPlace 17 1 (.isub) 18 := ⟨by decide +kernel, rfl⟩
theorem d_X7_firstPlace_18 : pm_D e_X7_firstPlace 18 1 (.ireturn) 19 := ⟨by decide +kernel, rfl⟩
theorem d_X7_lastPlace_0 : pm_i e_X7_lastPlace 0 .aload_n .aload 0 1 := Or.inl ⟨0, by decide +kernel, rfl, rfl⟩
theorem d_X7_lastPlace_1 : pm_F e_X7_lastPlace 1 .getfield (RX7, "hi", "I") 4 := ⟨15, by decide +kernel, rfl, Or.inl wm_263⟩
theorem d_X7_lastPlace_4 : pm_i e_X7_lastPlace 4 .iload_n .iload 1 5 := Or.inl ⟨1, by decide +kernel, rfl, rfl⟩
theorem d_X7_lastPlace_5 : pm_B e_X7_lastPlace 5 (fun z => .if_icmp .ge z) 15 8 := ⟨10, by decide +kernel, by decide, rfl⟩
theorem d_X7_lastPlace_8 : pm_i e_X7_lastPlace 8 .aload_n .aload 0 9 := Or.inl ⟨0, by decide +kernel, rfl, rfl⟩
theorem d_X7_lastPlace_9 : pm_F e_X7_lastPlace 9 .getfield (RX7, "hi", "I") 12 := ⟨15, by decide +kernel, rfl, Or.inl wm_263⟩
theorem d_X7_lastPlace_12 : pm_B e_X7_lastPlace 12 (fun z => .goto z) 18 15 := ⟨6, by decide +kernel, by decide, rfl⟩
theorem d_X7_lastPlace_15 : pm_i e_X7_lastPlace 15 .iload_n .iload 1 16 := Or.inl ⟨1, by decide +kernel, rfl, rfl⟩
theorem d_X7_lastPlace_16 : pm_P e_X7_lastPlace 16 1 17 := Or.inl ⟨1, by decide +kernel, by decide +kernel, rfl⟩
theorem d_X7_lastPlace_17 : pm_D e_X7_lastPlace 17 1 (.isub) 18 := ⟨by decide +kernel, rfl⟩
theorem d_X7_lastPlace_18 : pm_D e_X7_lastPlace 18 1 (.ireturn) 19 := ⟨by decide +kernel, rfl⟩
