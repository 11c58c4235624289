theorem d_X0_init_0 : pm_i e_X0_init 0 .aload_n .aload 0 1 := Or.inl ⟨0, by decide +kernel, rfl, rfl⟩
theorem d_X0_init_1 : pm_D e_X0_init 1 3 (.invokespecial 3) 4 := ⟨by decide +kernel, rfl⟩
theorem d_X0_init_4 : pm_i e_X0_init 4 .aload_n .aload 0 5 := Or.inl ⟨0, by decide +kernel, rfl, rfl⟩
theorem d_X0_init_5 : pm_P e_X0_init 5 64 7 := Or.inr <| Or.inl ⟨64, by decide +kernel, by decide +kernel, rfl⟩
theorem d_X0_init_7 : pm_D e_X0_init 7 2 (.newarray .byte) 9 := ⟨by decide +kernel, rfl⟩
theorem d_X0_init_9 : pm_F e_X0_init 9 .putfield (RX0, "bytes", "[B") 12 := ⟨9, by decide +kernel, rfl, Or.inl wm_151⟩
theorem d_X0_init_12 : pm_i e_X0_init 12 .aload_n .aload 0 13 := Or.inl ⟨0, by decide +kernel, rfl, rfl⟩
theorem d_X0_init_13 : pm_P e_X0_init 13 (-1) 14 := Or.inl ⟨-1, by decide +kernel, by decide +kernel, rfl⟩
theorem d_X0_init_14 : pm_F e_X0_init 14 .putfield (RX0, "size", "I") 17 := ⟨15, by decide +kernel, rfl, Or.inl wm_153⟩
theorem d_X0_init_17 : pm_D e_X0_init 17 1 (.return_) 18 := ⟨by decide +kernel, rfl⟩
theorem d_X0_isThere_0 : pm_i e_X0_isThere 0 .aload_n .aload 0 1 := Or.inl ⟨0, by decide +kernel, rfl, rfl⟩
theorem d_X0_isThere_1 : pm_F e_X0_isThere 1 .getfield (RX0, "size", "I") 4 := ⟨15, by decide +kernel, rfl, Or.inl wm_153⟩
theorem d_X0_isThere_4 : pm_B e_X0_isThere 4 (fun z => .ifCond .lt z) 11 7 := ⟨7, by decide +kernel, by decide, rfl⟩
theorem d_X0_isThere_7 : pm_P e_X0_isThere 7 1 8 := Or.inl ⟨1, by decide +kernel, by decide +kernel, rfl⟩
theorem d_X0_isThere_8 : pm_B e_X0_isThere 8 (fun z => .goto z) 12 11 := ⟨4, by decide +kernel, by decide, rfl⟩
theorem d_X0_isThere_11 : pm_P e_X0_isThere 11 0 12 := Or.inl ⟨0, by decide +kernel, by decide +kernel, rfl⟩
theorem d_X0_isThere_12 : pm_D e_X0_isThere 12 1 (.ireturn) 13 := ⟨by decide +kernel, rfl⟩
theorem d_X0_begin_0 : pm_i e_X0_begin 0 .aload_n .aload 0 1 := Or.inl ⟨0, by decide +kernel, rfl, rfl⟩
theorem d_X0_begin_1 : pm_F e_X0_begin 1 .getfield (RX0, "bytes", "[B") 4 := ⟨9, by decide +kernel, rfl, Or.inl wm_151⟩
theorem d_X0_begin_4 : pm_P e_X0_begin 4 0 5 := Or.inl ⟨0, by decide +kernel, by decide +kernel, rfl⟩
theorem d_X0_begin_5 : pm_kS e_X0_begin 5 e_J7_fill_031fb 2 8 := ⟨19, by decide +kernel, rfl, fit_X0_begin_J7_fill_031fb, wm_564, Or.inl wm_563⟩
theorem d_X0_begin_8 : pm_i e_X0_begin 8 .aload_n .aload 0 9 := Or.inl ⟨0, by decide +kernel, rfl, rfl⟩
theorem d_X0_begin_9 : pm_i e_X0_begin 9 .iload_n .iload 1 10 := Or.inl ⟨1, by decide +kernel, rfl, rfl⟩
theorem d_X0_begin_10 : pm_F e_X0_begin 10 .putfield (RX0, "size", "I") 13 := ⟨15, by decide +kernel, rfl, Or.inl wm_153⟩
theorem d_X0_begin_13 : pm_D e_X0_begin 13 1 (.return_) 14 := ⟨by decide +kernel, rfl⟩
theorem d_X0_hasBytes_0 : pm_i e_X0_hasBytes 0 .iload_n .iload 1 1 := Or.inl ⟨1, by decide +kernel, rfl, rfl⟩
theorem d_X0_hasBytes_1 : pm_B e_X0_hasBytes 1 (fun z => .ifCond .lt z) 18 4 := ⟨17, by decide +kernel, by decide, rfl⟩
theorem d_X0_hasBytes_4 : pm_i e_X0_hasBytes 4 .iload_n .iload 1 5 := Or.inl ⟨1, by decide +kernel, rfl, rfl⟩
theorem d_X0_hasBytes_5 : pm_i e_X0_hasBytes 5 .aload_n .aload 0 6 := Or.inl ⟨0, by decide +kernel, rfl, rfl⟩
theorem d_X0_hasBytes_6 : pm_F e_X0_hasBytes 6 .getfield (RX0, "size", "I") 9 := ⟨15, by decide +kernel, rfl, Or.inl wm_153⟩
theorem d_X0_hasBytes_9 : pm_i e_X0_hasBytes 9 .iload_n .iload 2 10 := Or.inl ⟨2, by decide +kernel, rfl, rfl⟩
theorem d_X0_hasBytes_10 : pm_D e_X0_hasBytes 10 1 (.isub) 11 := ⟨by decide +kernel, rfl⟩
theorem d_X0_hasBytes_11 : pm_B e_X0_hasBytes 11 (fun z => .if_icmp .gt z) 18 14 := ⟨7, by decide +kernel, by decide, rfl⟩
theorem d_X0_hasBytes_14 : pm_P e_X0_hasBytes 14 1 15 := Or.inl ⟨1, by decide +kernel, by decide +kernel, rfl⟩
theorem d_X0_hasBytes_15 : pm_B e_X0_hasBytes 15 (fun z => .goto z) 19 18 := ⟨4, by decide +kernel, by decide, rfl⟩
theorem d_X0_hasBytes_18 : pm_P e_X0_hasBytes 18 0 19 := Or.inl ⟨0, by decide +kernel, by decide +kernel, rfl⟩
theorem d_X0_hasBytes_19 : pm_D e_X0_hasBytes 19 1 (.ireturn) 20 := ⟨by decide +kernel, rfl⟩
theorem d_X0_misfitsIn_0 : pm_P e_X0_misfitsIn 0 0 1 := Or.inl ⟨0, by decide +kernel, by decide +kernel, rfl⟩
theorem d_X0_misfitsIn_1 : pm_i e_X0_misfitsIn 1 .istore_n .istore 2 2 := Or.inl ⟨2, by decide +kernel, rfl, rfl⟩
theorem d_X0_misfitsIn_2 : pm_P e_X0_misfitsIn 2 0 3 := Or.inl ⟨0, by decide +kernel, by decide +kernel, rfl⟩
theorem d_X0_misfitsIn_3 : pm_i e_X0_misfitsIn 3 .istore_n .istore 3 4 := Or.inl ⟨3, by decide +kernel, rfl, rfl⟩
theorem d_X0_misfitsIn_4 : pm_i e_X0_misfitsIn 4 .iload_n .iload 3 5 := Or.inl ⟨3, by decide +kernel, rfl, rfl⟩
theorem d_X0_misfitsIn_5 : pm_i e_X0_misfitsIn 5 .aload_n .aload 0 6 := Or.inl ⟨0, by decide +kernel, rfl, rfl⟩
theorem d_X0_misfitsIn_6 : pm_F e_X0_misfitsIn 6 .getfield (RX0, "size", "I") 9 := ⟨15, by decide +kernel, rfl, Or.inl wm_153⟩
theorem d_X0_misfitsIn_9 : pm_B e_X0_misfitsIn 9 (fun z => .if_icmp .ge z) 40 12 := ⟨31, by decide +kernel, by decide, rfl⟩
theorem d_X0_misfitsIn_12 : pm_i e_X0_misfitsIn 12 .aload_n .aload 0 13 := Or.inl ⟨0, by decide +kernel, rfl, rfl⟩
theorem d_X0_misfitsIn_13 : pm_i e_X0_misfitsIn 13 .iload_n .iload 3 14 := Or.inl ⟨3, by decide +kernel, rfl, rfl⟩
theorem d_X0_misfitsIn_14 : pm_i e_X0_misfitsIn 14 .iload_n .iload 1 15 := Or.inl ⟨1, by decide +kernel, rfl, rfl⟩
theorem d_X0_misfitsIn_15 : pm_kV e_X0_misfitsIn 15 e_X0_isMisfit RX0 2 18 := ⟨25, by decide +kernel, rfl, fit_X0_misfitsIn_X0_isMisfit, wm_600, Or.inl ⟨wm_598, wm_11⟩⟩
theorem d_X0_misfitsIn_18 : pm_B e_X0_misfitsIn 18 (fun z => .ifCond .eq z) 24 21 := ⟨6, by decide +kernel, by decide, rfl⟩
theorem d_X0_misfitsIn_21 : pm_I e_X0_misfitsIn 21 2 1 24 := ⟨1, by decide +kernel, by decide +kernel, rfl⟩
theorem d_X0_misfitsIn_24 : pm_i e_X0_misfitsIn 24 .iload_n .iload 3 25 := Or.inl ⟨3, by decide +kernel, rfl, rfl⟩
theorem d_X0_misfitsIn_25 : pm_i e_X0_misfitsIn 25 .iload_n .iload 1 26 := Or.inl ⟨1, by decide +kernel, rfl, rfl⟩
theorem d_X0_misfitsIn_26 : pm_P e_X0_misfitsIn 26 2 27 := Or.inl ⟨2, by decide +kernel, by decide +kernel, rfl⟩
theorem d_X0_misfitsIn_27 : pm_B e_X0_misfitsIn 27 (fun z => .if_icmp .ne z) 34 30 := ⟨7, by decide +kernel, by decide, rfl⟩
theorem d_X0_misfitsIn_30 : pm_P e_X0_misfitsIn 30 2 31 := Or.inl ⟨2, by decide +kernel, by decide +kernel, rfl⟩
theorem d_X0_misfitsIn_31 : pm_B e_X0_misfitsIn 31 (fun z => .goto z) 35 34 := ⟨4, by decide +kernel, by decide, rfl⟩
theorem d_X0_misfitsIn_34 : pm_P e_X0_misfitsIn 34 1 35 := Or.inl ⟨1, by decide +kernel, by decide +kernel, rfl⟩
theorem d_X0_misfitsIn_35 : pm_D e_X0_misfitsIn 35 1 (.iadd) 36 := ⟨by decide +kernel, rfl⟩
theorem d_X0_misfitsIn_36 : pm_i e_X0_misfitsIn 36 .istore_n .istore 3 37 := Or.inl ⟨3, by decide +kernel, rfl, rfl⟩
theorem d_X0_misfitsIn_37 : pm_B e_X0_misfitsIn 37 (fun z => .goto z) 4 40 := ⟨-33, by decide +kernel, by decide, rfl⟩
theorem d_X0_misfitsIn_40 : pm_i e_X0_misfitsIn 40 .iload_n .iload 2 41 := Or.inl ⟨2, by decide +kernel, rfl, rfl⟩
theorem d_X0_misfitsIn_41 : pm_D e_X0_misfitsIn 41 1 (.ireturn) 42 := ⟨by decide +kernel, rfl⟩
theorem d_X0_numbersThere_0 : pm_PL e_X0_numbersThere 0 0 1 := Or.inl ⟨0, by decide +kernel, by decide +kernel, rfl⟩
theorem d_X0_numbersThere_1 : pm_i e_X0_numbersThere 1 .lstore_n .lstore 1 2 := Or.inl ⟨1, by decide +kernel, rfl, rfl⟩
theorem d_X0_numbersThere_2 : pm_P e_X0_numbersThere 2 0 3 := Or.inl ⟨0, by decide +kernel, by decide +kernel, rfl⟩
theorem d_X0_numbersThere_3 : pm_i e_X0_numbersThere 3 .istore_n .istore 3 4 := Or.inl ⟨3, by decide +kernel, rfl, rfl⟩
theorem d_X0_numbersThere_4 : pm_i e_X0_numbersThere 4 .iload_n .iload 3 5 := Or.inl ⟨3, by decide +kernel, rfl, rfl⟩
theorem d_X0_numbersThere_5 : pm_i e_X0_numbersThere 5 .aload_n .aload 0 6 := Or.inl ⟨0, by decide +kernel, rfl, rfl⟩
theorem d_X0_numbersThere_6 : pm_F e_X0_numbersThere 6 .getfield (RX0, "size", "I") 9 := ⟨15, by decide +kernel, rfl, Or.inl wm_153⟩
theorem d_X0_numbersThere_9 : pm_B e_X0_numbersThere 9 (fun z => .if_icmp .ge z) 41 12 := ⟨32, by decide +kernel, by decide, rfl⟩
theorem d_X0_numbersThere_12 : pm_i e_X0_numbersThere 12 .aload_n .aload 0 13 := Or.inl ⟨0, by decide +kernel, rfl, rfl⟩
theorem d_X0_numbersThere_13 : pm_F e_X0_numbersThere 13 .getfield (RX0, "bytes", "[B") 16 := ⟨9, by decide +kernel, rfl, Or.inl wm_151⟩
theorem d_X0_numbersThere_16 : pm_i e_X0_numbersThere 16 .iload_n .iload 3 17 := Or.inl ⟨3, by decide +kernel, rfl, rfl⟩
theorem d_X0_numbersThere_17 : pm_D e_X0_numbersThere 17 1 (.baload) 18 := ⟨by decide +kernel, rfl⟩
theorem d_X0_numbersThere_18 : pm_kS e_X0_numbersThere 18 e_X9_isNumber 1 21 := ⟨29, by decide +kernel, rfl, fit_X0_numbersThere_X9_isNumber, wm_519, Or.inr ⟨_, wm_606⟩⟩
theorem d_X0_numbersThere_21 : pm_B e_X0_numbersThere 21 (fun z => .ifCond .eq z) 35 24 := ⟨14, by decide +kernel, by decide, rfl⟩
theorem d_X0_numbersThere_24 : pm_i e_X0_numbersThere 24 .lload_n .lload 1 25 := Or.inl ⟨1, by decide +kernel, rfl, rfl⟩
theorem d_X0_numbersThere_25 : pm_PL e_X0_numbersThere 25 1 26 := Or.inl ⟨1, by decide +kernel, by decide +kernel, rfl⟩
theorem d_X0_numbersThere_26 : pm_i e_X0_numbersThere 26 .aload_n .aload 0 27 := Or.inl ⟨0, by decide +kernel, rfl, rfl⟩
theorem d_X0_numbersThere_27 : pm_F e_X0_numbersThere 27 .getfield (RX0, "bytes", "[B") 30 := ⟨9, by decide +kernel, rfl, Or.inl wm_151⟩
theorem d_X0_numbersThere_30 : pm_i e_X0_numbersThere 30 .iload_n .iload 3 31 := Or.inl ⟨3, by decide +kernel, rfl, rfl⟩
theorem d_X0_numbersThere_31 : pm_D e_X0_numbersThere 31 1 (.baload) 32 := ⟨by decide +kernel, rfl⟩
theorem d_X0_numbersThere_32 : pm_D e_X0_numbersThere 32 1 (.lshl) 33 := ⟨by decide +kernel, rfl⟩
theorem d_X0_numbersThere_33 : pm_D e_X0_numbersThere 33 1 (.lor) 34 := ⟨by decide +kernel, rfl⟩
theorem d_X0_numbersThere_34 : pm_i e_X0_numbersThere 34 .lstore_n .lstore 1 35 := Or.inl ⟨1, by decide +kernel, rfl, rfl⟩
theorem d_X0_numbersThere_35 : pm_I e_X0_numbersThere 35 3 1 38 := ⟨1, by decide +kernel, by decide +kernel, rfl⟩
theorem d_X0_numbersThere_38 : pm_B e_X0_numbersThere 38 (fun z => .goto z) 4 41 := ⟨-34, by decide +kernel, by decide, rfl⟩
theorem d_X0_numbersThere_41 : pm_i e_X0_numbersThere 41 .lload_n .lload 1 42 := Or.inl ⟨1, by decide +kernel, rfl, rfl⟩
theorem d_X0_numbersThere_42 : pm_D e_X0_numbersThere 42 1 (.lreturn) 43 := ⟨by decide +kernel, rfl⟩
theorem d_X0_mendingSwap_0 : pm_i e_X0_mendingSwap 0 .aload_n .aload 0 1 := Or.inl ⟨0, by decide +kernel, rfl, rfl⟩
theorem d_X0_mendingSwap_1 : pm_i e_X0_mendingSwap 1 .iload_n .iload 1 2 := Or.inl ⟨1, by decide +kernel, rfl, rfl⟩
theorem d_X0_mendingSwap_2 : pm_kV e_X0_mendingSwap 2 e_X0_misfitsIn RX0 1 5 := ⟨33, by decide +kernel, rfl, fit_X0_mendingSwap_X0_misfitsIn, wm_595, Or.inl ⟨wm_636, wm_596⟩⟩
theorem d_X0_mendingSwap_5 : pm_i e_X0_mendingSwap 5 .istore_n .istore 2 6 := Or.inl ⟨2, by decide +kernel, rfl, rfl⟩
theorem d_X0_mendingSwap_6 : pm_i e_X0_mendingSwap 6 .iload_n .iload 2 7 := Or.inl ⟨2, by decide +kernel, rfl, rfl⟩
theorem d_X0_mendingSwap_7 : pm_B e_X0_mendingSwap 7 (fun z => .ifCond .ne z) 12 10 := ⟨5, by decide +kernel, by decide, rfl⟩
theorem d_X0_mendingSwap_10 : pm_P e_X0_mendingSwap 10 0 11 := Or.inl ⟨0, by decide +kernel, by decide +kernel, rfl⟩
theorem d_X0_mendingSwap_11 : pm_D e_X0_mendingSwap 11 1 (.ireturn) 12 := ⟨by decide +kernel, rfl⟩
theorem d_X0_mendingSwap_12 : pm_i e_X0_mendingSwap 12 .iload_n .iload 2 13 := Or.inl ⟨2, by decide +kernel, rfl, rfl⟩
theorem d_X0_mendingSwap_13 : pm_P e_X0_mendingSwap 13 2 14 := Or.inl ⟨2, by decide +kernel, by decide +kernel, rfl⟩
theorem d_X0_mendingSwap_14 : pm_B e_X0_mendingSwap 14 (fun z => .if_icmp .le z) 20 17 := ⟨6, by decide +kernel, by decide, rfl⟩
theorem d_X0_mendingSwap_17 : pm_P e_X0_mendingSwap 17 (-9) 19 := Or.inr <| Or.inl ⟨-9, by decide +kernel, by decide +kernel, rfl⟩
theorem d_X0_mendingSwap_19 : pm_D e_X0_mendingSwap 19 1 (.ireturn) 20 := ⟨by decide +kernel, rfl⟩
theorem d_X0_mendingSwap_20 : pm_P e_X0_mendingSwap 20 0 21 := Or.inl ⟨0, by decide +kernel, by decide +kernel, rfl⟩
theorem d_X0_mendingSwap_21 : pm_i e_X0_mendingSwap 21 .istore_n .istore 3 22 := Or.inl ⟨3, by decide +kernel, rfl, rfl⟩
theorem d_X0_mendingSwap_22 : pm_i e_X0_mendingSwap 22 .iload_n .iload 3 23 := Or.inl ⟨3, by decide +kernel, rfl, rfl⟩
theorem d_X0_mendingSwap_23 : pm_i e_X0_mendingSwap 23 .aload_n .aload 0 24 := Or.inl ⟨0, by decide +kernel, rfl, rfl⟩
theorem d_X0_mendingSwap_24 : pm_F e_X0_mendingSwap 24 .getfield (RX0, "size", "I") 27 := ⟨15, by decide +kernel, rfl, Or.inl wm_153⟩
theorem d_X0_mendingSwap_27 : pm_B e_X0_mendingSwap 27 (fun z => .if_icmp .ge z) 94 30 := ⟨67, by decide +kernel, by decide, rfl⟩
theorem d_X0_mendingSwap_30 : pm_i e_X0_mendingSwap 30 .iload_n .iload 3 31 := Or.inl ⟨3, by decide +kernel, rfl, rfl⟩
theorem d_X0_mendingSwap_31 : pm_P e_X0_mendingSwap 31 1 32 := Or.inl ⟨1, by decide +kernel, by decide +kernel, rfl⟩
theorem d_X0_mendingSwap_32 : pm_D e_X0_mendingSwap 32 1 (.iadd) 33 := ⟨by decide +kernel, rfl⟩
theorem d_X0_mendingSwap_33 : pm_i e_X0_mendingSwap 33 .istore_n .istore 4 35 := Or.inr ⟨by decide +kernel, rfl⟩
theorem d_X0_mendingSwap_35 : pm_i e_X0_mendingSwap 35 .iload_n .iload 4 37 := Or.inr ⟨by decide +kernel, rfl⟩
theorem d_X0_mendingSwap_37 : pm_i e_X0_mendingSwap 37 .aload_n .aload 0 38 := Or.inl ⟨0, by decide +kernel, rfl, rfl⟩
theorem d_X0_mendingSwap_38 : pm_F e_X0_mendingSwap 38 .getfield (RX0, "size", "I") 41 := ⟨15, by decide +kernel, rfl, Or.inl wm_153⟩
theorem d_X0_mendingSwap_41 : pm_B e_X0_mendingSwap 41 (fun z => .if_icmp .ge z) 88 44 := ⟨47, by decide +kernel, by decide, rfl⟩
theorem d_X0_mendingSwap_44 : pm_i e_X0_mendingSwap 44 .aload_n .aload 0 45 := Or.inl ⟨0, by decide +kernel, rfl, rfl⟩
theorem d_X0_mendingSwap_45 : pm_i e_X0_mendingSwap 45 .iload_n .iload 3 46 := Or.inl ⟨3, by decide +kernel, rfl, rfl⟩
theorem d_X0_mendingSwap_46 : pm_i e_X0_mendingSwap 46 .iload_n .iload 1 47 := Or.inl ⟨1, by decide +kernel, rfl, rfl⟩
theorem d_X0_mendingSwap_47 : pm_kV e_X0_mendingSwap 47 e_X0_isMisfit RX0 2 50 := ⟨25, by decide +kernel, rfl, fit_X0_mendingSwap_X0_isMisfit, wm_600, Or.inl ⟨wm_598, wm_11⟩⟩
theorem d_X0_mendingSwap_50 : pm_B e_X0_mendingSwap 50 (fun z => .ifCond .ne z) 63 53 := ⟨13, by decide +kernel, by decide, rfl⟩
theorem d_X0_mendingSwap_53 : pm_i e_X0_mendingSwap 53 .aload_n .aload 0 54 := Or.inl ⟨0, by decide +kernel, rfl, rfl⟩
theorem d_X0_mendingSwap_54 : pm_i e_X0_mendingSwap 54 .iload_n .iload 4 56 := Or.inr ⟨by decide +kernel, rfl⟩
theorem d_X0_mendingSwap_56 : pm_i e_X0_mendingSwap 56 .iload_n .iload 1 57 := Or.inl ⟨1, by decide +kernel, rfl, rfl⟩
theorem d_X0_mendingSwap_57 : pm_kV e_X0_mendingSwap 57 e_X0_isMisfit RX0 2 60 := ⟨25, by decide +kernel, rfl, fit_X0_mendingSwap_X0_isMisfit, wm_600, Or.inl ⟨wm_598, wm_11⟩⟩
theorem d_X0_mendingSwap_60 : pm_B e_X0_mendingSwap 60 (fun z => .ifCond .eq z) 82 63 := ⟨22, by decide +kernel, by decide, rfl⟩
theorem d_X0_mendingSwap_63 : pm_i e_X0_mendingSwap 63 .aload_n .aload 0 64 := Or.inl ⟨0, by decide +kernel, rfl, rfl⟩
theorem d_X0_mendingSwap_64 : pm_i e_X0_mendingSwap 64 .iload_n .iload 3 65 := Or.inl ⟨3, by decide +kernel, rfl, rfl⟩
theorem d_X0_mendingSwap_65 : pm_i e_X0_mendingSwap 65 .iload_n .iload 4 67 := Or.inr ⟨by decide +kernel, rfl⟩
theorem d_X0_mendingSwap_67 : pm_i e_X0_mendingSwap 67 .iload_n .iload 1 68 := Or.inl ⟨1, by decide +kernel, rfl, rfl⟩
theorem d_X0_mendingSwap_68 : pm_kV e_X0_mendingSwap 68 e_X0_isMendedBy RX0 3 71 := ⟨37, by decide +kernel, rfl, fit_X0_mendingSwap_X0_isMendedBy, wm_639, Or.inl ⟨wm_637, wm_13⟩⟩
theorem d_X0_mendingSwap_71 : pm_B e_X0_mendingSwap 71 (fun z => .ifCond .eq z) 82 74 := ⟨11, by decide +kernel, by decide, rfl⟩
theorem d_X0_mendingSwap_74 : pm_P e_X0_mendingSwap 74 100 76 := Or.inr <| Or.inl ⟨100, by decide +kernel, by decide +kernel, rfl⟩
theorem d_X0_mendingSwap_76 : pm_i e_X0_mendingSwap 76 .iload_n .iload 3 77 := Or.inl ⟨3, by decide +kernel, rfl, rfl⟩
theorem d_X0_mendingSwap_77 : pm_D e_X0_mendingSwap 77 1 (.imul) 78 := ⟨by decide +kernel, rfl⟩
theorem d_X0_mendingSwap_78 : pm_i e_X0_mendingSwap 78 .iload_n .iload 4 80 := Or.inr ⟨by decide +kernel, rfl⟩
theorem d_X0_mendingSwap_80 : pm_D e_X0_mendingSwap 80 1 (.iadd) 81 := ⟨by decide +kernel, rfl⟩
theorem d_X0_mendingSwap_81 : pm_D e_X0_mendingSwap 81 1 (.ireturn) 82 := ⟨by decide +kernel, rfl⟩
theorem d_X0_mendingSwap_82 : pm_I e_X0_mendingSwap 82 4 1 85 := ⟨1, by decide +kernel, by decide +kernel, rfl⟩
theorem d_X0_mendingSwap_85 : pm_B e_X0_mendingSwap 85 (fun z => .goto z) 35 88 := ⟨-50, by decide +kernel, by decide, rfl⟩
theorem d_X0_mendingSwap_88 : pm_I e_X0_mendingSwap 88 3 1 91 := ⟨1, by decide +kernel, by decide +kernel, rfl⟩
theorem d_X0_mendingSwap_91 : pm_B e_X0_mendingSwap 91 (fun z => .goto z) 22 94 := ⟨-69, by decide +kernel, by decide, rfl⟩
theorem d_X0_mendingSwap_94 : pm_P e_X0_mendingSwap 94 (-9) 96 := Or.inr <| Or.inl ⟨-9, by decide +kernel, by decide +kernel, rfl⟩
theorem d_X0_mendingSwap_96 : pm_D e_X0_mendingSwap 96 1 (.ireturn) 97 := ⟨by decide +kernel, rfl⟩
theorem d_X0_partsInto_0 : pm_i e_X0_partsInto 0 .aload_n .aload 1 1 := Or.inl ⟨1, by decide +kernel, rfl, rfl⟩
theorem d_X0_partsInto_1 : pm_P e_X0_partsInto 1 0 2 := Or.inl ⟨0, by decide +kernel, by decide +kernel, rfl⟩
theorem d_X0_partsInto_2 : pm_kS e_X0_partsInto 2 e_J7_fill_53178 2 5 := ⟨41, by decide +kernel, rfl, fit_X0_partsInto_J7_fill_53178, wm_76, Or.inl wm_657⟩
theorem d_X0_partsInto_5 : pm_P e_X0_partsInto 5 0 6 := Or.inl ⟨0, by decide +kernel, by decide +kernel, rfl⟩
theorem d_X0_partsInto_6 : pm_i e_X0_partsInto 6 .istore_n .istore 2 7 := Or.inl ⟨2, by decide +kernel, rfl, rfl⟩
theorem d_X0_partsInto_7 : pm_P e_X0_partsInto 7 0 8 := Or.inl ⟨0, by decide +kernel, by decide +kernel, rfl⟩
theorem d_X0_partsInto_8 : pm_i e_X0_partsInto 8 .istore_n .istore 3 9 := Or.inl ⟨3, by decide +kernel, rfl, rfl⟩
theorem d_X0_partsInto_9 : pm_i e_X0_partsInto 9 .iload_n .iload 3 10 := Or.inl ⟨3, by decide +kernel, rfl, rfl⟩
theorem d_X0_partsInto_10 : pm_i e_X0_partsInto 10 .aload_n .aload 0 11 := Or.inl ⟨0, by decide +kernel, rfl, rfl⟩
theorem d_X0_partsInto_11 : pm_F e_X0_partsInto 11 .getfield (RX0, "size", "I") 14 := ⟨15, by decide +kernel, rfl, Or.inl wm_153⟩
theorem d_X0_partsInto_14 : pm_B e_X0_partsInto 14 (fun z => .if_icmp .ge z) 58 17 := ⟨44, by decide +kernel, by decide, rfl⟩
theorem d_X0_partsInto_17 : pm_i e_X0_partsInto 17 .aload_n .aload 0 18 := Or.inl ⟨0, by decide +kernel, rfl, rfl⟩
theorem d_X0_partsInto_18 : pm_F e_X0_partsInto 18 .getfield (RX0, "bytes", "[B") 21 := ⟨9, by decide +kernel, rfl, Or.inl wm_151⟩
theorem d_X0_partsInto_21 : pm_i e_X0_partsInto 21 .iload_n .iload 3 22 := Or.inl ⟨3, by decide +kernel, rfl, rfl⟩
theorem d_X0_partsInto_22 : pm_D e_X0_partsInto 22 1 (.baload) 23 := ⟨by decide +kernel, rfl⟩
theorem d_X0_partsInto_23 : pm_B e_X0_partsInto 23 (fun z => .ifCond .lt z) 52 26 := ⟨29, by decide +kernel, by decide, rfl⟩
theorem d_X0_partsInto_26 : pm_i e_X0_partsInto 26 .aload_n .aload 0 27 := Or.inl ⟨0, by decide +kernel, rfl, rfl⟩
theorem d_X0_partsInto_27 : pm_F e_X0_partsInto 27 .getfield (RX0, "bytes", "[B") 30 := ⟨9, by decide +kernel, rfl, Or.inl wm_151⟩
theorem d_X0_partsInto_30 : pm_i e_X0_partsInto 30 .iload_n .iload 3 31 := Or.inl ⟨3, by decide +kernel, rfl, rfl⟩
theorem d_X0_partsInto_31 : pm_D e_X0_partsInto 31 1 (.baload) 32 := ⟨by decide +kernel, rfl⟩
theorem d_X0_partsInto_32 : pm_i e_X0_partsInto 32 .aload_n .aload 1 33 := Or.inl ⟨1, by decide +kernel, rfl, rfl⟩
theorem d_X0_partsInto_33 : pm_D e_X0_partsInto 33 1 (.arraylength) 34 := ⟨by decide +kernel, rfl⟩
theorem d_X0_partsInto_34 : pm_B e_X0_partsInto 34 (fun z => .if_icmp .ge z) 52 37 := ⟨18, by decide +kernel, by decide, rfl⟩
theorem d_X0_partsInto_37 : pm_i e_X0_partsInto 37 .aload_n .aload 1 38 := Or.inl ⟨1, by decide +kernel, rfl, rfl⟩
theorem d_X0_partsInto_38 : pm_i e_X0_partsInto 38 .aload_n .aload 0 39 := Or.inl ⟨0, by decide +kernel, rfl, rfl⟩
theorem d_X0_partsInto_39 : pm_F e_X0_partsInto 39 .getfield (RX0, "bytes", "[B") 42 := ⟨9, by decide +kernel, rfl, Or.inl wm_151⟩
theorem d_X0_partsInto_42 : pm_i e_X0_partsInto 42 .iload_n .iload 3 43 := Or.inl ⟨3, by decide +kernel, rfl, rfl⟩
theorem d_X0_partsInto_43 : pm_D e_X0_partsInto 43 1 (.baload) 44 := ⟨by decide +kernel, rfl⟩
theorem d_X0_partsInto_44 : pm_D e_X0_partsInto 44 1 (.dup2) 45 := ⟨by decide +kernel, rfl⟩
theorem d_X0_partsInto_45 : pm_D e_X0_partsInto 45 1 (.iaload) 46 := ⟨by decide +kernel, rfl⟩
theorem d_X0_partsInto_46 : pm_P e_X0_partsInto 46 1 47 := Or.inl ⟨1, by decide +kernel, by decide +kernel, rfl⟩
theorem d_X0_partsInto_47 : pm_D e_X0_partsInto 47 1 (.iadd) 48 := ⟨by decide +kernel, rfl⟩
theorem d_X0_partsInto_48 : pm_D e_X0_partsInto 48 1 (.iastore) 49 := ⟨by decide +kernel, rfl⟩
theorem d_X0_partsInto_49 : pm_I e_X0_partsInto 49 2 1 52 := ⟨1, by decide +kernel, by decide +kernel, rfl⟩
theorem d_X0_partsInto_52 : pm_I e_X0_partsInto 52 3 1 55 := ⟨1, by decide +kernel, by decide +kernel, rfl⟩
theorem d_X0_partsInto_55 : pm_B e_X0_partsInto 55 (fun z => .goto z) 9 58 := ⟨-46, by decide +kernel, by decide, rfl⟩
theorem d_X0_partsInto_58 : pm_i e_X0_partsInto 58 .iload_n .iload 2 59 := Or.inl ⟨2, by decide +kernel, rfl, rfl⟩
theorem d_X0_partsInto_59 : pm_B e_X0_partsInto 59 (fun z => .ifCond .ne z) 64 62 := ⟨5, by decide +kernel, by decide, rfl⟩
theorem d_X0_partsInto_62 : pm_P e_X0_partsInto 62 0 63 := Or.inl ⟨0, by decide +kernel, by decide +kernel, rfl⟩
theorem d_X0_partsInto_63 : pm_D e_X0_partsInto 63 1 (.ireturn) 64 := ⟨by decide +kernel, rfl⟩
theorem d_X0_partsInto_64 : pm_P e_X0_partsInto 64 0 65 := Or.inl ⟨0, by decide +kernel, by decide +kernel, rfl⟩
theorem d_X0_partsInto_65 : pm_i e_X0_partsInto 65 .istore_n .istore 3 66 := Or.inl ⟨3, by decide +kernel, rfl, rfl⟩
theorem d_X0_partsInto_66 : pm_i e_X0_partsInto 66 .iload_n .iload 3 67 := Or.inl ⟨3, by decide +kernel, rfl, rfl⟩
theorem d_X0_partsInto_67 : pm_i e_X0_partsInto 67 .aload_n .aload 1 68 := Or.inl ⟨1, by decide +kernel, rfl, rfl⟩
theorem d_X0_partsInto_68 : pm_D e_X0_partsInto 68 1 (.arraylength) 69 := ⟨by decide +kernel, rfl⟩
theorem d_X0_partsInto_69 : pm_B e_X0_partsInto 69 (fun z => .if_icmp .ge z) 89 72 := ⟨20, by decide +kernel, by decide, rfl⟩
theorem d_X0_partsInto_72 : pm_i e_X0_partsInto 72 .aload_n .aload 1 73 := Or.inl ⟨1, by decide +kernel, rfl, rfl⟩
theorem d_X0_partsInto_73 : pm_i e_X0_partsInto 73 .iload_n .iload 3 74 := Or.inl ⟨3, by decide +kernel, rfl, rfl⟩
theorem d_X0_partsInto_74 : pm_P e_X0_partsInto 74 1000000 76 := Or.inr <| Or.inr <| Or.inr <| Or.inl ⟨44, by decide +kernel, wm_658, rfl⟩
theorem d_X0_partsInto_76 : pm_i e_X0_partsInto 76 .aload_n .aload 1 77 := Or.inl ⟨1, by decide +kernel, rfl, rfl⟩
theorem d_X0_partsInto_77 : pm_i e_X0_partsInto 77 .iload_n .iload 3 78 := Or.inl ⟨3, by decide +kernel, rfl, rfl⟩
theorem d_X0_partsInto_78 : pm_D e_X0_partsInto 78 1 (.iaload) 79 := ⟨by decide +kernel, rfl⟩
theorem d_X0_partsInto_79 : pm_D e_X0_partsInto 79 1 (.imul) 80 := ⟨by decide +kernel, rfl⟩
theorem d_X0_partsInto_80 : pm_i e_X0_partsInto 80 .iload_n .iload 2 81 := Or.inl ⟨2, by decide +kernel, rfl, rfl⟩
theorem d_X0_partsInto_81 : pm_D e_X0_partsInto 81 1 (.idiv) 82 := ⟨by decide +kernel, rfl⟩
theorem d_X0_partsInto_82 : pm_D e_X0_partsInto 82 1 (.iastore) 83 := ⟨by decide +kernel, rfl⟩
theorem d_X0_partsInto_83 : pm_I e_X0_partsInto 83 3 1 86 := ⟨1, by decide +kernel, by decide +kernel, rfl⟩
theorem d_X0_partsInto_86 : pm_B e_X0_partsInto 86 (fun z => .goto z) 66 89 := ⟨-20, by decide +kernel, by decide, rfl⟩
theorem d_X0_partsInto_89 : pm_P e_X0_partsInto 89 1 90 := Or.inl ⟨1, by decide +kernel, by decide +kernel, rfl⟩
theorem d_X0_partsInto_90 : pm_D e_X0_partsInto 90 1 (.ireturn) 91 := ⟨by decide +kernel, rfl⟩
theorem d_X0_isMendedBy_0 : pm_i e_X0_isMendedBy 0 .aload_n .aload 0 1 := Or.inl ⟨0, by decide +kernel, rfl, rfl⟩
theorem d_X0_isMendedBy_1 : pm_i e_X0_isMendedBy 1 .iload_n .iload 1 2 := Or.inl ⟨1, by decide +kernel, rfl, rfl⟩
theorem d_X0_isMendedBy_2 : pm_i e_X0_isMendedBy 2 .iload_n .iload 2 3 := Or.inl ⟨2, by decide +kernel, rfl, rfl⟩
theorem d_X0_isMendedBy_3 : pm_kV e_X0_isMendedBy 3 e_X0_changePlaces RX0 2 6 := ⟨45, by decide +kernel, rfl, fit_X0_isMendedBy_X0_changePlaces, wm_643, Or.inl ⟨wm_641, wm_14⟩⟩
theorem d_X0_isMendedBy_6 : pm_i e_X0_isMendedBy 6 .aload_n .aload 0 7 := Or.inl ⟨0, by decide +kernel, rfl, rfl⟩
theorem d_X0_isMendedBy_7 : pm_i e_X0_isMendedBy 7 .iload_n .iload 3 8 := Or.inl ⟨3, by decide +kernel, rfl, rfl⟩
theorem d_X0_isMendedBy_8 : pm_kV e_X0_isMendedBy 8 e_X0_misfitsIn RX0 1 11 := ⟨33, by decide +kernel, rfl, fit_X0_isMendedBy_X0_misfitsIn, wm_595, Or.inl ⟨wm_636, wm_596⟩⟩
theorem d_X0_isMendedBy_11 : pm_B e_X0_isMendedBy 11 (fun z => .ifCond .ne z) 18 14 := ⟨7, by decide +kernel, by decide, rfl⟩
theorem d_X0_isMendedBy_14 : pm_P e_X0_isMendedBy 14 1 15 := Or.inl ⟨1, by decide +kernel, by decide +kernel, rfl⟩
theorem d_X0_isMendedBy_15 : pm_B e_X0_isMendedBy 15 (fun z => .goto z) 19 18 := ⟨4, by decide +kernel, by decide, rfl⟩
theorem d_X0_isMendedBy_18 : pm_P e_X0_isMendedBy 18 0 19 := Or.inl ⟨0, by decide +kernel, by decide +kernel, rfl⟩
theorem d_X0_isMendedBy_19 : pm_i e_X0_isMendedBy 19 .istore_n .istore 4 21 := Or.inr ⟨by decide +kernel, rfl⟩
theorem d_X0_isMendedBy_21 : pm_i e_X0_isMendedBy 21 .aload_n .aload 0 22 := Or.inl ⟨0, by decide +kernel, rfl, rfl⟩
theorem d_X0_isMendedBy_22 : pm_i e_X0_isMendedBy 22 .iload_n .iload 1 23 := Or.inl ⟨1, by decide +kernel, rfl, rfl⟩
theorem d_X0_isMendedBy_23 : pm_i e_X0_isMendedBy 23 .iload_n .iload 2 24 := Or.inl ⟨2, by decide +kernel, rfl, rfl⟩
theorem d_X0_isMendedBy_24 : pm_kV e_X0_isMendedBy 24 e_X0_changePlaces RX0 2 27 := ⟨45, by decide +kernel, rfl, fit_X0_isMendedBy_X0_changePlaces, wm_643, Or.inl ⟨wm_641, wm_14⟩⟩
theorem d_X0_isMendedBy_27 : pm_i e_X0_isMendedBy 27 .iload_n .iload 4 29 := Or.inr ⟨by decide +kernel, rfl⟩
theorem d_X0_isMendedBy_29 : pm_D e_X0_isMendedBy 29 1 (.ireturn) 30 := ⟨by decide +kernel, rfl⟩
theorem d_X0_changePlaces_0 : pm_i e_X0_changePlaces 0 .aload_n .aload 0 1 := Or.inl ⟨0, by decide +kernel, rfl, rfl⟩
theorem d_X0_changePlaces_1 : pm_F e_X0_changePlaces 1 .getfield (RX0, "bytes", "[B") 4 := ⟨9, by decide +kernel, rfl, Or.inl wm_151⟩
theorem d_X0_changePlaces_4 : pm_i e_X0_changePlaces 4 .iload_n .iload 1 5 := Or.inl ⟨1, by decide +kernel, rfl, rfl⟩
theorem d_X0_changePlaces_5 : pm_D e_X0_changePlaces 5 1 (.baload) 6 := ⟨by decide +kernel, rfl⟩
theorem d_X0_changePlaces_6 : pm_i e_X0_changePlaces 6 .istore_n .istore 3 7 := Or.inl ⟨3, by decide +kernel, rfl, rfl⟩
theorem d_X0_changePlaces_7 : pm_i e_X0_changePlaces 7 .aload_n .aload 0 8 := Or.inl ⟨0, by decide +kernel, rfl, rfl⟩
theorem d_X0_changePlaces_8 : pm_F e_X0_changePlaces 8 .getfield (RX0, "bytes", "[B") 11 := ⟨9, by decide +kernel, rfl, Or.inl wm_151⟩
theorem d_X0_changePlaces_11 : pm_i e_X0_changePlaces 11 .iload_n .iload 1 12 := Or.inl ⟨1, by decide +kernel, rfl, rfl⟩
theorem d_X0_changePlaces_12 : pm_i e_X0_changePlaces 12 .aload_n .aload 0 13 := Or.inl ⟨0, by decide +kernel, rfl, rfl⟩
theorem d_X0_changePlaces_13 : pm_F e_X0_changePlaces 13 .getfield (RX0, "bytes", "[B") 16 := ⟨9, by decide +kernel, rfl, Or.inl wm_151⟩
theorem d_X0_changePlaces_16 : pm_i e_X0_changePlaces 16 .iload_n .iload 2 17 := Or.inl ⟨2, by decide +kernel, rfl, rfl⟩
theorem d_X0_changePlaces_17 : pm_D e_X0_changePlaces 17 1 (.baload) 18 := ⟨by decide +kernel, rfl⟩
theorem d_X0_changePlaces_18 : pm_D e_X0_changePlaces 18 1 (.bastore) 19 := ⟨by decide +kernel, rfl⟩
theorem d_X0_changePlaces_19 : pm_i e_X0_changePlaces 19 .aload_n .aload 0 20 := Or.inl ⟨0, by decide +kernel, rfl, rfl⟩
theorem d_X0_changePlaces_20 : pm_F e_X0_changePlaces 20 .getfield (RX0, "bytes", "[B") 23 := ⟨9, by decide +kernel, rfl, Or.inl wm_151⟩
theorem d_X0_changePlaces_23 : pm_i e_X0_changePlaces 23 .iload_n .iload 2 24 := Or.inl ⟨2, by decide +kernel, rfl, rfl⟩
theorem d_X0_changePlaces_24 : pm_i e_X0_changePlaces 24 .iload_n .iload 3 25 := Or.inl ⟨3, by decide +kernel, rfl, rfl⟩
theorem d_X0_changePlaces_25 : pm_D e_X0_changePlaces 25 1 (.bastore) 26 := ⟨by decide +kernel, rfl⟩
theorem d_X0_changePlaces_26 : pm_D e_X0_changePlaces 26 1 (.return_) 27 := ⟨by decide +kernel, rfl⟩
theorem d_X0_isMisfit_0 : pm_i e_X0_isMisfit 0 .iload_n .iload 2 1 := Or.inl ⟨2, by decide +kernel, rfl, rfl⟩
theorem d_X0_isMisfit_1 : pm_P e_X0_isMisfit 1 2 2 := Or.inl ⟨2, by decide +kernel, by decide +kernel, rfl⟩
theorem d_X0_isMisfit_2 : pm_B e_X0_isMisfit 2 (fun z => .if_icmp .ne z) 14 5 := ⟨12, by decide +kernel, by decide, rfl⟩
theorem d_X0_isMisfit_5 : pm_i e_X0_isMisfit 5 .aload_n .aload 0 6 := Or.inl ⟨0, by decide +kernel, rfl, rfl⟩
theorem d_X0_isMisfit_6 : pm_i e_X0_isMisfit 6 .iload_n .iload 1 7 := Or.inl ⟨1, by decide +kernel, rfl, rfl⟩
theorem d_X0_isMisfit_7 : pm_P e_X0_isMisfit 7 (-2) 9 := Or.inr <| Or.inl ⟨-2, by decide +kernel, by decide +kernel, rfl⟩
theorem d_X0_isMisfit_9 : pm_D e_X0_isMisfit 9 1 (.iand) 10 := ⟨by decide +kernel, rfl⟩
theorem d_X0_isMisfit_10 : pm_kV e_X0_isMisfit 10 e_X0_isMisfitPair RX0 1 13 := ⟨49, by decide +kernel, rfl, fit_X0_isMisfit_X0_isMisfitPair, wm_604, Or.inl ⟨wm_602, wm_12⟩⟩
theorem d_X0_isMisfit_13 : pm_D e_X0_isMisfit 13 1 (.ireturn) 14 := ⟨by decide +kernel, rfl⟩
theorem d_X0_isMisfit_14 : pm_i e_X0_isMisfit 14 .aload_n .aload 0 15 := Or.inl ⟨0, by decide +kernel, rfl, rfl⟩
theorem d_X0_isMisfit_15 : pm_F e_X0_isMisfit 15 .getfield (RX0, "bytes", "[B") 18 := ⟨9, by decide +kernel, rfl, Or.inl wm_151⟩
theorem d_X0_isMisfit_18 : pm_i e_X0_isMisfit 18 .iload_n .iload 1 19 := Or.inl ⟨1, by decide +kernel, rfl, rfl⟩
theorem d_X0_isMisfit_19 : pm_D e_X0_isMisfit 19 1 (.baload) 20 := ⟨by decide +kernel, rfl⟩
theorem d_X0_isMisfit_20 : pm_kS e_X0_isMisfit 20 e_X9_isNumber 1 23 := ⟨29, by decide +kernel, rfl, fit_X0_isMisfit_X9_isNumber, wm_519, Or.inr ⟨_, wm_606⟩⟩
theorem d_X0_isMisfit_23 : pm_B e_X0_isMisfit 23 (fun z => .ifCond .eq z) 51 26 := ⟨28, by decide +kernel, by decide, rfl⟩
theorem d_X0_isMisfit_26 : pm_i e_X0_isMisfit 26 .aload_n .aload 0 27 := Or.inl ⟨0, by decide +kernel, rfl, rfl⟩
theorem d_X0_isMisfit_27 : pm_F e_X0_isMisfit 27 .getfield (RX0, "bytes", "[B") 30 := ⟨9, by decide +kernel, rfl, Or.inl wm_151⟩
theorem d_X0_isMisfit_30 : pm_i e_X0_isMisfit 30 .iload_n .iload 1 31 := Or.inl ⟨1, by decide +kernel, rfl, rfl⟩
theorem d_X0_isMisfit_31 : pm_D e_X0_isMisfit 31 1 (.baload) 32 := ⟨by decide +kernel, rfl⟩
theorem d_X0_isMisfit_32 : pm_i e_X0_isMisfit 32 .iload_n .iload 2 33 := Or.inl ⟨2, by decide +kernel, rfl, rfl⟩
theorem d_X0_isMisfit_33 : pm_B e_X0_isMisfit 33 (fun z => .ifCond .ne z) 40 36 := ⟨7, by decide +kernel, by decide, rfl⟩
theorem d_X0_isMisfit_36 : pm_i e_X0_isMisfit 36 .iload_n .iload 1 37 := Or.inl ⟨1, by decide +kernel, rfl, rfl⟩
theorem d_X0_isMisfit_37 : pm_B e_X0_isMisfit 37 (fun z => .goto z) 44 40 := ⟨7, by decide +kernel, by decide, rfl⟩
theorem d_X0_isMisfit_40 : pm_i e_X0_isMisfit 40 .iload_n .iload 1 41 := Or.inl ⟨1, by decide +kernel, rfl, rfl⟩
theorem d_X0_isMisfit_41 : pm_kS e_X0_isMisfit 41 e_X9_turnedBits 1 44 := ⟨52, by decide +kernel, rfl, fit_X0_isMisfit_X9_turnedBits, wm_534, Or.inr ⟨_, wm_607⟩⟩
theorem d_X0_isMisfit_44 : pm_B e_X0_isMisfit 44 (fun z => .if_icmp .eq z) 51 47 := ⟨7, by decide +kernel, by decide, rfl⟩
theorem d_X0_isMisfit_47 : pm_P e_X0_isMisfit 47 1 48 := Or.inl ⟨1, by decide +kernel, by decide +kernel, rfl⟩
theorem d_X0_isMisfit_48 : pm_B e_X0_isMisfit 48 (fun z => .goto z) 52 51 := ⟨4, by decide +kernel, by decide, rfl⟩
theorem d_X0_isMisfit_51 : pm_P e_X0_isMisfit 51 0 52 := Or.inl ⟨0, by decide +kernel, by decide +kernel, rfl⟩
theorem d_X0_isMisfit_52 : pm_D e_X0_isMisfit 52 1 (.ireturn) 53 := ⟨by decide +kernel, rfl⟩
theorem d_X0_isMisfitPair_0 : pm_i e_X0_isMisfitPair 0 .iload_n .iload 1 1 := Or.inl ⟨1, by decide +kernel, rfl, rfl⟩
theorem d_X0_isMisfitPair_1 : pm_P e_X0_isMisfitPair 1 1 2 := Or.inl ⟨1, by decide +kernel, by decide +kernel, rfl⟩
theorem d_X0_isMisfitPair_2 : pm_D e_X0_isMisfitPair 2 1 (.iadd) 3 := ⟨by decide +kernel, rfl⟩
theorem d_X0_isMisfitPair_3 : pm_i e_X0_isMisfitPair 3 .aload_n .aload 0 4 := Or.inl ⟨0, by decide +kernel, rfl, rfl⟩
theorem d_X0_isMisfitPair_4 : pm_F e_X0_isMisfitPair 4 .getfield (RX0, "size", "I") 7 := ⟨15, by decide +kernel, rfl, Or.inl wm_153⟩
theorem d_X0_isMisfitPair_7 : pm_B e_X0_isMisfitPair 7 (fun z => .if_icmp .ge z) 36 10 := ⟨29, by decide +kernel, by decide, rfl⟩
theorem d_X0_isMisfitPair_10 : pm_i e_X0_isMisfitPair 10 .aload_n .aload 0 11 := Or.inl ⟨0, by decide +kernel, rfl, rfl⟩
theorem d_X0_isMisfitPair_11 : pm_F e_X0_isMisfitPair 11 .getfield (RX0, "bytes", "[B") 14 := ⟨9, by decide +kernel, rfl, Or.inl wm_151⟩
theorem d_X0_isMisfitPair_14 : pm_i e_X0_isMisfitPair 14 .iload_n .iload 1 15 := Or.inl ⟨1, by decide +kernel, rfl, rfl⟩
theorem d_X0_isMisfitPair_15 : pm_D e_X0_isMisfitPair 15 1 (.baload) 16 := ⟨by decide +kernel, rfl⟩
theorem d_X0_isMisfitPair_16 : pm_kS e_X0_isMisfitPair 16 e_X9_isNumber 1 19 := ⟨29, by decide +kernel, rfl, fit_X0_isMisfitPair_X9_isNumber, wm_519, Or.inr ⟨_, wm_606⟩⟩
theorem d_X0_isMisfitPair_19 : pm_B e_X0_isMisfitPair 19 (fun z => .ifCond .eq z) 36 22 := ⟨17, by decide +kernel, by decide, rfl⟩
theorem d_X0_isMisfitPair_22 : pm_i e_X0_isMisfitPair 22 .aload_n .aload 0 23 := Or.inl ⟨0, by decide +kernel, rfl, rfl⟩
theorem d_X0_isMisfitPair_23 : pm_F e_X0_isMisfitPair 23 .getfield (RX0, "bytes", "[B") 26 := ⟨9, by decide +kernel, rfl, Or.inl wm_151⟩
theorem d_X0_isMisfitPair_26 : pm_i e_X0_isMisfitPair 26 .iload_n .iload 1 27 := Or.inl ⟨1, by decide +kernel, rfl, rfl⟩
theorem d_X0_isMisfitPair_27 : pm_P e_X0_isMisfitPair 27 1 28 := Or.inl ⟨1, by decide +kernel, by decide +kernel, rfl⟩
theorem d_X0_isMisfitPair_28 : pm_D e_X0_isMisfitPair 28 1 (.iadd) 29 := ⟨by decide +kernel, rfl⟩
theorem d_X0_isMisfitPair_29 : pm_D e_X0_isMisfitPair 29 1 (.baload) 30 := ⟨by decide +kernel, rfl⟩
theorem d_X0_isMisfitPair_30 : pm_kS e_X0_isMisfitPair 30 e_X9_isNumber 1 33 := ⟨29, by decide +kernel, rfl, fit_X0_isMisfitPair_X9_isNumber, wm_519, Or.inr ⟨_, wm_606⟩⟩
theorem d_X0_isMisfitPair_33 : pm_B e_X0_isMisfitPair 33 (fun z => .ifCond .ne z) 38 36 := ⟨5, by decide +kernel, by decide, rfl⟩
theorem d_X0_isMisfitPair_36 : pm_P e_X0_isMisfitPair 36 0 37 := Or.inl ⟨0, by decide +kernel, by decide +kernel, rfl⟩
theorem d_X0_isMisfitPair_37 : pm_D e_X0_isMisfitPair 37 1 (.ireturn) 38 := ⟨by decide +kernel, rfl⟩
theorem d_X0_isMisfitPair_38 : pm_i e_X0_isMisfitPair 38 .aload_n .aload 0 39 := Or.inl ⟨0, by decide +kernel, rfl, rfl⟩
theorem d_X0_isMisfitPair_39 : pm_F e_X0_isMisfitPair 39 .getfield (RX0, "bytes", "[B") 42 := ⟨9, by decide +kernel, rfl, Or.inl wm_151⟩
theorem d_X0_isMisfitPair_42 : pm_i e_X0_isMisfitPair 42 .iload_n .iload 1 43 := Or.inl ⟨1, by decide +kernel, rfl, rfl⟩
theorem d_X0_isMisfitPair_43 : pm_D e_X0_isMisfitPair 43 1 (.baload) 44 := ⟨by decide +kernel, rfl⟩
theorem d_X0_isMisfitPair_44 : pm_kS e_X0_isMisfitPair 44 e_X9_turnedBits 1 47 := ⟨52, by decide +kernel, rfl, fit_X0_isMisfitPair_X9_turnedBits, wm_534, Or.inr ⟨_, wm_607⟩⟩
theorem d_X0_isMisfitPair_47 : pm_i e_X0_isMisfitPair 47 .istore_n .istore 2 48 := Or.inl ⟨2, by decide +kernel, rfl, rfl⟩
theorem d_X0_isMisfitPair_48 : pm_i e_X0_isMisfitPair 48 .aload_n .aload 0 49 := Or.inl ⟨0, by decide +kernel, rfl, rfl⟩
theorem d_X0_isMisfitPair_49 : pm_F e_X0_isMisfitPair 49 .getfield (RX0, "bytes", "[B") 52 := ⟨9, by decide +kernel, rfl, Or.inl wm_151⟩
theorem d_X0_isMisfitPair_52 : pm_i e_X0_isMisfitPair 52 .iload_n .iload 1 53 := Or.inl ⟨1, by decide +kernel, rfl, rfl⟩
theorem d_X0_isMisfitPair_53 : pm_P e_X0_isMisfitPair 53 1 54 := Or.inl ⟨1, by decide +kernel, by decide +kernel, rfl⟩
theorem d_X0_isMisfitPair_54 : pm_D e_X0_isMisfitPair 54 1 (.iadd) 55 := ⟨by decide +kernel, rfl⟩
theorem d_X0_isMisfitPair_55 : pm_D e_X0_isMisfitPair 55 1 (.baload) 56 := ⟨by decide +kernel, rfl⟩
theorem d_X0_isMisfitPair_56 : pm_i e_X0_isMisfitPair 56 .iload_n .iload 2 57 := Or.inl ⟨2, by decide +kernel, rfl, rfl⟩
theorem d_X0_isMisfitPair_57 : pm_i e_X0_isMisfitPair 57 .aload_n .aload 0 58 := Or.inl ⟨0, by decide +kernel, rfl, rfl⟩
theorem d_X0_isMisfitPair_58 : pm_F e_X0_isMisfitPair 58 .getfield (RX0, "bytes", "[B") 61 := ⟨9, by decide +kernel, rfl, Or.inl wm_151⟩
theorem d_X0_isMisfitPair_61 : pm_i e_X0_isMisfitPair 61 .iload_n .iload 1 62 := Or.inl ⟨1, by decide +kernel, rfl, rfl⟩
theorem d_X0_isMisfitPair_62 : pm_D e_X0_isMisfitPair 62 1 (.baload) 63 := ⟨by decide +kernel, rfl⟩
theorem d_X0_isMisfitPair_63 : pm_B e_X0_isMisfitPair 63 (fun z => .if_icmp .ne z) 73 66 := ⟨10, by decide +kernel, by decide, rfl⟩
theorem d_X0_isMisfitPair_66 : pm_i e_X0_isMisfitPair 66 .iload_n .iload 2 67 := Or.inl ⟨2, by decide +kernel, rfl, rfl⟩
theorem d_X0_isMisfitPair_67 : pm_kS e_X0_isMisfitPair 67 e_X9_oppositeBits 1 70 := ⟨55, by decide +kernel, rfl, fit_X0_isMisfitPair_X9_oppositeBits, wm_537, Or.inr ⟨_, wm_608⟩⟩
theorem d_X0_isMisfitPair_70 : pm_B e_X0_isMisfitPair 70 (fun z => .goto z) 74 73 := ⟨4, by decide +kernel, by decide, rfl⟩
theorem d_X0_isMisfitPair_73 : pm_i e_X0_isMisfitPair 73 .iload_n .iload 2 74 := Or.inl ⟨2, by decide +kernel, rfl, rfl⟩
theorem d_X0_isMisfitPair_74 : pm_B e_X0_isMisfitPair 74 (fun z => .if_icmp .eq z) 81 77 := ⟨7, by decide +kernel, by decide, rfl⟩
theorem d_X0_isMisfitPair_77 : pm_P e_X0_isMisfitPair 77 1 78 := Or.inl ⟨1, by decide +kernel, by decide +kernel, rfl⟩
theorem d_X0_isMisfitPair_78 : pm_B e_X0_isMisfitPair 78 (fun z => .goto z) 82 81 := ⟨4, by decide +kernel, by decide, rfl⟩
theorem d_X0_isMisfitPair_81 : pm_P e_X0_isMisfitPair 81 0 82 := Or.inl ⟨0, by decide +kernel, by decide +kernel, rfl⟩
theorem d_X0_isMisfitPair_82 : pm_D e_X0_isMisfitPair 82 1 (.ireturn) 83 := ⟨by decide +kernel, rfl⟩
