theorem d_X4_init_0 : pm_i e_X4_init 0 .aload_n .aload 0 1 := Or.inl ⟨0, by decide +kernel, rfl, rfl⟩
theorem d_X4_init_1 : pm_D e_X4_init 1 3 (.invokespecial 3) 4 := ⟨by decide +kernel, rfl⟩
theorem d_X4_init_4 : pm_i e_X4_init 4 .aload_n .aload 0 5 := Or.inl ⟨0, by decide +kernel, rfl, rfl⟩
theorem d_X4_init_5 : pm_P e_X4_init 5 31 7 := Or.inr <| Or.inl ⟨31, by decide +kernel, by decide +kernel, rfl⟩
theorem d_X4_init_7 : pm_D e_X4_init 7 2 (.newarray .long) 9 := ⟨by decide +kernel, rfl⟩
theorem d_X4_init_9 : pm_F e_X4_init 9 .putfield (RX4, "weights", "[J") 12 := ⟨9, by decide +kernel, rfl, Or.inl wm_124⟩
theorem d_X4_init_12 : pm_i e_X4_init 12 .aload_n .aload 0 13 := Or.inl ⟨0, by decide +kernel, rfl, rfl⟩
theorem d_X4_init_13 : pm_P e_X4_init 13 61 15 := Or.inr <| Or.inl ⟨61, by decide +kernel, by decide +kernel, rfl⟩
theorem d_X4_init_15 : pm_D e_X4_init 15 2 (.newarray .long) 17 := ⟨by decide +kernel, rfl⟩
theorem d_X4_init_17 : pm_F e_X4_init 17 .putfield (RX4, "heaps", "[J") 20 := ⟨15, by decide +kernel, rfl, Or.inl wm_129⟩
theorem d_X4_init_20 : pm_i e_X4_init 20 .aload_n .aload 0 21 := Or.inl ⟨0, by decide +kernel, rfl, rfl⟩
theorem d_X4_init_21 : pm_P e_X4_init 21 61 23 := Or.inr <| Or.inl ⟨61, by decide +kernel, by decide +kernel, rfl⟩
theorem d_X4_init_23 : pm_D e_X4_init 23 2 (.newarray .long) 25 := ⟨by decide +kernel, rfl⟩
theorem d_X4_init_25 : pm_F e_X4_init 25 .putfield (RX4, "nextHeaps", "[J") 28 := ⟨18, by decide +kernel, rfl, Or.inl wm_131⟩
theorem d_X4_init_28 : pm_i e_X4_init 28 .aload_n .aload 0 29 := Or.inl ⟨0, by decide +kernel, rfl, rfl⟩
theorem d_X4_init_29 : pm_PL e_X4_init 29 1 30 := Or.inl ⟨1, by decide +kernel, by decide +kernel, rfl⟩
theorem d_X4_init_30 : pm_F e_X4_init 30 .putfield (RX4, "all", "J") 33 := ⟨21, by decide +kernel, rfl, Or.inl wm_133⟩
theorem d_X4_init_33 : pm_D e_X4_init 33 1 (.return_) 34 := ⟨by decide +kernel, rfl⟩
theorem d_X4_begin_0 : pm_i e_X4_begin 0 .aload_n .aload 0 1 := Or.inl ⟨0, by decide +kernel, rfl, rfl⟩
theorem d_X4_begin_1 : pm_F e_X4_begin 1 .getfield (RX4, "weights", "[J") 4 := ⟨9, by decide +kernel, rfl, Or.inl wm_124⟩
theorem d_X4_begin_4 : pm_PL e_X4_begin 4 0 5 := Or.inl ⟨0, by decide +kernel, by decide +kernel, rfl⟩
theorem d_X4_begin_5 : pm_kS e_X4_begin 5 e_J7_fill_d0a16 2 8 := ⟨25, by decide +kernel, rfl, fit_X4_begin_J7_fill_d0a16, wm_387, Or.inl wm_386⟩
theorem d_X4_begin_8 : pm_i e_X4_begin 8 .aload_n .aload 0 9 := Or.inl ⟨0, by decide +kernel, rfl, rfl⟩
theorem d_X4_begin_9 : pm_i e_X4_begin 9 .lload_n .lload 1 10 := Or.inl ⟨1, by decide +kernel, rfl, rfl⟩
theorem d_X4_begin_10 : pm_F e_X4_begin 10 .putfield (RX4, "all", "J") 13 := ⟨21, by decide +kernel, rfl, Or.inl wm_133⟩
theorem d_X4_begin_13 : pm_D e_X4_begin 13 1 (.return_) 14 := ⟨by decide +kernel, rfl⟩
theorem d_X4_beginBundle_0 : pm_i e_X4_beginBundle 0 .aload_n .aload 0 1 := Or.inl ⟨0, by decide +kernel, rfl, rfl⟩
theorem d_X4_beginBundle_1 : pm_PL e_X4_beginBundle 1 1 2 := Or.inl ⟨1, by decide +kernel, by decide +kernel, rfl⟩
theorem d_X4_beginBundle_2 : pm_kV e_X4_beginBundle 2 e_X4_begin RX4 1 5 := ⟨31, by decide +kernel, rfl, fit_X4_beginBundle_X4_begin, wm_383, Or.inl ⟨wm_403, wm_384⟩⟩
theorem d_X4_beginBundle_5 : pm_i e_X4_beginBundle 5 .aload_n .aload 0 6 := Or.inl ⟨0, by decide +kernel, rfl, rfl⟩
theorem d_X4_beginBundle_6 : pm_F e_X4_beginBundle 6 .getfield (RX4, "heaps", "[J") 9 := ⟨15, by decide +kernel, rfl, Or.inl wm_129⟩
theorem d_X4_beginBundle_9 : pm_PL e_X4_beginBundle 9 0 10 := Or.inl ⟨0, by decide +kernel, by decide +kernel, rfl⟩
theorem d_X4_beginBundle_10 : pm_kS e_X4_beginBundle 10 e_J7_fill_d0a16 2 13 := ⟨25, by decide +kernel, rfl, fit_X4_beginBundle_J7_fill_d0a16, wm_387, Or.inl wm_386⟩
theorem d_X4_beginBundle_13 : pm_i e_X4_beginBundle 13 .iload_n .iload 1 14 := Or.inl ⟨1, by decide +kernel, rfl, rfl⟩
theorem d_X4_beginBundle_14 : pm_B e_X4_beginBundle 14 (fun z => .ifCond .lt z) 30 17 := ⟨16, by decide +kernel, by decide, rfl⟩
theorem d_X4_beginBundle_17 : pm_i e_X4_beginBundle 17 .iload_n .iload 1 18 := Or.inl ⟨1, by decide +kernel, rfl, rfl⟩
theorem d_X4_beginBundle_18 : pm_P e_X4_beginBundle 18 60 20 := Or.inr <| Or.inl ⟨60, by decide +kernel, by decide +kernel, rfl⟩
theorem d_X4_beginBundle_20 : pm_B e_X4_beginBundle 20 (fun z => .if_icmp .gt z) 30 23 := ⟨10, by decide +kernel, by decide, rfl⟩
theorem d_X4_beginBundle_23 : pm_i e_X4_beginBundle 23 .aload_n .aload 0 24 := Or.inl ⟨0, by decide +kernel, rfl, rfl⟩
theorem d_X4_beginBundle_24 : pm_F e_X4_beginBundle 24 .getfield (RX4, "heaps", "[J") 27 := ⟨15, by decide +kernel, rfl, Or.inl wm_129⟩
theorem d_X4_beginBundle_27 : pm_i e_X4_beginBundle 27 .iload_n .iload 1 28 := Or.inl ⟨1, by decide +kernel, rfl, rfl⟩
theorem d_X4_beginBundle_28 : pm_PL e_X4_beginBundle 28 1 29 := Or.inl ⟨1, by decide +kernel, by decide +kernel, rfl⟩
theorem d_X4_beginBundle_29 : pm_D e_X4_beginBundle 29 1 (.lastore) 30 := ⟨by decide +kernel, rfl⟩
theorem d_X4_beginBundle_30 : pm_D e_X4_beginBundle 30 1 (.return_) 31 := ⟨by decide +kernel, rfl⟩
theorem d_X4_partsInto_0 : pm_P e_X4_partsInto 0 0 1 := Or.inl ⟨0, by decide +kernel, by decide +kernel, rfl⟩
theorem d_X4_partsInto_1 : pm_i e_X4_partsInto 1 .istore_n .istore 2 2 := Or.inl ⟨2, by decide +kernel, rfl, rfl⟩
theorem d_X4_partsInto_2 : pm_i e_X4_partsInto 2 .iload_n .iload 2 3 := Or.inl ⟨2, by decide +kernel, rfl, rfl⟩
theorem d_X4_partsInto_3 : pm_i e_X4_partsInto 3 .aload_n .aload 1 4 := Or.inl ⟨1, by decide +kernel, rfl, rfl⟩
theorem d_X4_partsInto_4 : pm_D e_X4_partsInto 4 1 (.arraylength) 5 := ⟨by decide +kernel, rfl⟩
theorem d_X4_partsInto_5 : pm_B e_X4_partsInto 5 (fun z => .if_icmp .ge z) 52 8 := ⟨47, by decide +kernel, by decide, rfl⟩
theorem d_X4_partsInto_8 : pm_i e_X4_partsInto 8 .iload_n .iload 2 9 := Or.inl ⟨2, by decide +kernel, rfl, rfl⟩
theorem d_X4_partsInto_9 : pm_P e_X4_partsInto 9 30 11 := Or.inr <| Or.inl ⟨30, by decide +kernel, by decide +kernel, rfl⟩
theorem d_X4_partsInto_11 : pm_B e_X4_partsInto 11 (fun z => .if_icmp .gt z) 52 14 := ⟨41, by decide +kernel, by decide, rfl⟩
theorem d_X4_partsInto_14 : pm_i e_X4_partsInto 14 .aload_n .aload 1 15 := Or.inl ⟨1, by decide +kernel, rfl, rfl⟩
theorem d_X4_partsInto_15 : pm_i e_X4_partsInto 15 .iload_n .iload 2 16 := Or.inl ⟨2, by decide +kernel, rfl, rfl⟩
theorem d_X4_partsInto_16 : pm_i e_X4_partsInto 16 .aload_n .aload 0 17 := Or.inl ⟨0, by decide +kernel, rfl, rfl⟩
theorem d_X4_partsInto_17 : pm_F e_X4_partsInto 17 .getfield (RX4, "all", "J") 20 := ⟨21, by decide +kernel, rfl, Or.inl wm_133⟩
theorem d_X4_partsInto_20 : pm_PL e_X4_partsInto 20 1 21 := Or.inl ⟨1, by decide +kernel, by decide +kernel, rfl⟩
theorem d_X4_partsInto_21 : pm_D e_X4_partsInto 21 1 (.lcmp) 22 := ⟨by decide +kernel, rfl⟩
theorem d_X4_partsInto_22 : pm_B e_X4_partsInto 22 (fun z => .ifCond .ge z) 29 25 := ⟨7, by decide +kernel, by decide, rfl⟩
theorem d_X4_partsInto_25 : pm_P e_X4_partsInto 25 0 26 := Or.inl ⟨0, by decide +kernel, by decide +kernel, rfl⟩
theorem d_X4_partsInto_26 : pm_B e_X4_partsInto 26 (fun z => .goto z) 45 29 := ⟨19, by decide +kernel, by decide, rfl⟩
theorem d_X4_partsInto_29 : pm_PL e_X4_partsInto 29 1000000 32 := Or.inr ⟨35, by decide +kernel, wm_672, rfl⟩
theorem d_X4_partsInto_32 : pm_i e_X4_partsInto 32 .aload_n .aload 0 33 := Or.inl ⟨0, by decide +kernel, rfl, rfl⟩
theorem d_X4_partsInto_33 : pm_F e_X4_partsInto 33 .getfield (RX4, "weights", "[J") 36 := ⟨9, by decide +kernel, rfl, Or.inl wm_124⟩
theorem d_X4_partsInto_36 : pm_i e_X4_partsInto 36 .iload_n .iload 2 37 := Or.inl ⟨2, by decide +kernel, rfl, rfl⟩
theorem d_X4_partsInto_37 : pm_D e_X4_partsInto 37 1 (.laload) 38 := ⟨by decide +kernel, rfl⟩
theorem d_X4_partsInto_38 : pm_D e_X4_partsInto 38 1 (.lmul) 39 := ⟨by decide +kernel, rfl⟩
theorem d_X4_partsInto_39 : pm_i e_X4_partsInto 39 .aload_n .aload 0 40 := Or.inl ⟨0, by decide +kernel, rfl, rfl⟩
theorem d_X4_partsInto_40 : pm_F e_X4_partsInto 40 .getfield (RX4, "all", "J") 43 := ⟨21, by decide +kernel, rfl, Or.inl wm_133⟩
theorem d_X4_partsInto_43 : pm_D e_X4_partsInto 43 1 (.ldiv) 44 := ⟨by decide +kernel, rfl⟩
theorem d_X4_partsInto_44 : pm_D e_X4_partsInto 44 1 (.l2i) 45 := ⟨by decide +kernel, rfl⟩
theorem d_X4_partsInto_45 : pm_D e_X4_partsInto 45 1 (.iastore) 46 := ⟨by decide +kernel, rfl⟩
theorem d_X4_partsInto_46 : pm_I e_X4_partsInto 46 2 1 49 := ⟨1, by decide +kernel, by decide +kernel, rfl⟩
theorem d_X4_partsInto_49 : pm_B e_X4_partsInto 49 (fun z => .goto z) 2 52 := ⟨-47, by decide +kernel, by decide, rfl⟩
theorem d_X4_partsInto_52 : pm_D e_X4_partsInto 52 1 (.return_) 53 := ⟨by decide +kernel, rfl⟩
