theorem d_X6_init_0 : pm_i e_X6_init 0 .aload_n .aload 0 1 := Or.inl ⟨0, by decide +kernel, rfl, rfl⟩
theorem d_X6_init_1 : pm_kI e_X6_init 1 e_X1_init 0 4 := ⟨3, by decide +kernel, rfl, fit_X6_init_X1_init, rfl, rfl, wm_216, Or.inr ⟨_, wm_239⟩⟩
theorem d_X6_init_4 : pm_i e_X6_init 4 .aload_n .aload 0 5 := Or.inl ⟨0, by decide +kernel, rfl, rfl⟩
theorem d_X6_init_5 : pm_i e_X6_init 5 .iload_n .iload 1 6 := Or.inl ⟨1, by decide +kernel, rfl, rfl⟩
theorem d_X6_init_6 : pm_F e_X6_init 6 .putfield (RX6, "bundle", "I") 9 := ⟨9, by decide +kernel, rfl, Or.inl wm_240⟩
theorem d_X6_init_9 : pm_i e_X6_init 9 .aload_n .aload 0 10 := Or.inl ⟨0, by decide +kernel, rfl, rfl⟩
theorem d_X6_init_10 : pm_i e_X6_init 10 .iload_n .iload 2 11 := Or.inl ⟨2, by decide +kernel, rfl, rfl⟩
theorem d_X6_init_11 : pm_F e_X6_init 11 .putfield (RX6, "by", "I") 14 := ⟨15, by decide +kernel, rfl, Or.inl wm_242⟩
theorem d_X6_init_14 : pm_i e_X6_init 14 .aload_n .aload 0 15 := Or.inl ⟨0, by decide +kernel, rfl, rfl⟩
theorem d_X6_init_15 : pm_i e_X6_init 15 .iload_n .iload 3 16 := Or.inl ⟨3, by decide +kernel, rfl, rfl⟩
theorem d_X6_init_16 : pm_B e_X6_init 16 (fun z => .ifCond .eq z) 23 19 := ⟨7, by decide +kernel, by decide, rfl⟩
theorem d_X6_init_19 : pm_P e_X6_init 19 1 20 := Or.inl ⟨1, by decide +kernel, by decide +kernel, rfl⟩
theorem d_X6_init_20 : pm_B e_X6_init 20 (fun z => .goto z) 24 23 := ⟨4, by decide +kernel, by decide, rfl⟩
theorem d_X6_init_23 : pm_P e_X6_init 23 0 24 := Or.inl ⟨0, by decide +kernel, by decide +kernel, rfl⟩
theorem d_X6_init_24 : pm_F e_X6_init 24 .putfield (RX6, "fingers", "I") 27 := ⟨18, by decide +kernel, rfl, Or.inl wm_243⟩
theorem d_X6_init_27 : pm_D e_X6_init 27 1 (.return_) 28 := ⟨by decide +kernel, rfl⟩
theorem d_X6_tell_0 : pm_i e_X6_tell 0 .iload_n .iload 1 1 := Or.inl ⟨1, by decide +kernel, rfl, rfl⟩
theorem d_X6_tell_1 : pm_T e_X6_tell 1 0 2 43 [28, 33, 38] := ⟨42, #[27, 32, 37], 27, by decide +kernel, by decide, by decide⟩
theorem d_X6_tell_28 : pm_i e_X6_tell 28 .aload_n .aload 0 29 := Or.inl ⟨0, by decide +kernel, rfl, rfl⟩
theorem d_X6_tell_29_6 : pm_kV e_X6_tell 29 e_X6_kind RX6 0 32 := ⟨21, by decide +kernel, rfl, fit_X6_tell_X6_kind, wm_290, Or.inl ⟨wm_289, wm_291⟩⟩
theorem d_X6_tell_29_7 : pm_kV e_X6_tell 29 e_X7_kind RX7 0 32 := ⟨21, by decide +kernel, rfl, fit_X6_tell_X7_kind, wm_294, Or.inr (Or.inr ⟨yX6_kind, RX6, _, _, _, wm_289, wm_292, wm_293, ⟨by decide +kernel, by decide +kernel⟩, wm_290, wm_296, by decide +kernel⟩)⟩
theorem d_X6_tell_32 : pm_D e_X6_tell 32 1 (.ireturn) 33 := ⟨by decide +kernel, rfl⟩
theorem d_X6_tell_33 : pm_i e_X6_tell 33 .aload_n .aload 0 34 := Or.inl ⟨0, by decide +kernel, rfl, rfl⟩
theorem d_X6_tell_34 : pm_F e_X6_tell 34 .getfield (RX6, "bundle", "I") 37 := ⟨9, by decide +kernel, rfl, Or.inl wm_240⟩
theorem d_X6_tell_37 : pm_D e_X6_tell 37 1 (.ireturn) 38 := ⟨by decide +kernel, rfl⟩
theorem d_X6_tell_38 : pm_i e_X6_tell 38 .aload_n .aload 0 39 := Or.inl ⟨0, by decide +kernel, rfl, rfl⟩
theorem d_X6_tell_39 : pm_F e_X6_tell 39 .getfield (RX6, "by", "I") 42 := ⟨15, by decide +kernel, rfl, Or.inl wm_242⟩
theorem d_X6_tell_42 : pm_D e_X6_tell 42 1 (.ireturn) 43 := ⟨by decide +kernel, rfl⟩
theorem d_X6_tell_43 : pm_i e_X6_tell 43 .aload_n .aload 0 44 := Or.inl ⟨0, by decide +kernel, rfl, rfl⟩
theorem d_X6_tell_44 : pm_F e_X6_tell 44 .getfield (RX6, "fingers", "I") 47 := ⟨18, by decide +kernel, rfl, Or.inl wm_243⟩
theorem d_X6_tell_47 : pm_D e_X6_tell 47 1 (.ireturn) 48 := ⟨by decide +kernel, rfl⟩
theorem d_X6_kind_0 : pm_P e_X6_kind 0 1 1 := Or.inl ⟨1, by decide +kernel, by decide +kernel, rfl⟩
theorem d_X6_kind_1 : pm_D e_X6_kind 1 1 (.ireturn) 2 := ⟨by decide +kernel, rfl⟩
theorem d_X6_firstPlace_0 : pm_P e_X6_firstPlace 0 1 1 := Or.inl ⟨1, by decide +kernel, by decide +kernel, rfl⟩
theorem d_X6_firstPlace_1 : pm_D e_X6_firstPlace 1 1 (.ireturn) 2 := ⟨by decide +kernel, rfl⟩
theorem d_X6_lastPlace_0 : pm_i e_X6_lastPlace 0 .iload_n .iload 1 1 := Or.inl ⟨1, by decide +kernel, rfl, rfl⟩
theorem d_X6_lastPlace_1 : pm_P e_X6_lastPlace 1 1 2 := Or.inl ⟨1, by decide +kernel, by decide +kernel, rfl⟩
theorem d_X6_lastPlace_2 : pm_D e_X6_lastPlace 2 1 (.isub) 3 := ⟨by decide +kernel, rfl⟩
theorem d_X6_lastPlace_3 : pm_D e_X6_lastPlace 3 1 (.ireturn) 4 := ⟨by decide +kernel, rfl⟩
theorem d_X6_placesOf_0 : pm_i e_X6_placesOf 0 .aload_n .aload 0 1 := Or.inl ⟨0, by decide +kernel, rfl, rfl⟩
theorem d_X6_placesOf_1 : pm_i e_X6_placesOf 1 .iload_n .iload 1 2 := Or.inl ⟨1, by decide +kernel, rfl, rfl⟩
theorem d_X6_placesOf_2_6 : pm_kV e_X6_placesOf 2 e_X6_lastPlace RX6 1 5 := ⟨25, by decide +kernel, rfl, fit_X6_placesOf_X6_lastPlace, wm_326, Or.inl ⟨wm_325, wm_327⟩⟩
theorem d_X6_placesOf_2_7 : pm_kV e_X6_placesOf 2 e_X7_lastPlace RX7 1 5 := ⟨25, by decide +kernel, rfl, fit_X6_placesOf_X7_lastPlace, wm_330, Or.inr (Or.inr ⟨yX6_lastPlace, RX6, _, _, _, wm_325, wm_328, wm_329, ⟨by decide +kernel, by decide +kernel⟩, wm_326, wm_332, by decide +kernel⟩)⟩
theorem d_X6_placesOf_5 : pm_i e_X6_placesOf 5 .aload_n .aload 0 6 := Or.inl ⟨0, by decide +kernel, rfl, rfl⟩
theorem d_X6_placesOf_6 : pm_i e_X6_placesOf 6 .iload_n .iload 1 7 := Or.inl ⟨1, by decide +kernel, rfl, rfl⟩
theorem d_X6_placesOf_7_6 : pm_kV e_X6_placesOf 7 e_X6_firstPlace RX6 1 10 := ⟨29, by decide +kernel, rfl, fit_X6_placesOf_X6_firstPlace, wm_334, Or.inl ⟨wm_333, wm_335⟩⟩
theorem d_X6_placesOf_7_7 : pm_kV e_X6_placesOf 7 e_X7_firstPlace RX7 1 10 := ⟨29, by decide +kernel, rfl, fit_X6_placesOf_X7_firstPlace, wm_338, Or.inr (Or.inr ⟨yX6_firstPlace, RX6, _, _, _, wm_333, wm_336, wm_337, ⟨by decide +kernel, by decide +kernel⟩, wm_334, wm_340, by decide +kernel⟩)⟩
theorem d_X6_placesOf_10 : pm_D e_X6_placesOf 10 1 (.isub) 11 := ⟨by decide +kernel, rfl⟩
theorem d_X6_placesOf_11 : pm_P e_X6_placesOf 11 1 12 := Or.inl ⟨1, by decide +kernel, by decide +kernel, rfl⟩
theorem d_X6_placesOf_12 : pm_D e_X6_placesOf 12 1 (.iadd) 13 := ⟨by decide +kernel, rfl⟩
theorem d_X6_placesOf_13 : pm_D e_X6_placesOf 13 1 (.ireturn) 14 := ⟨by decide +kernel, rfl⟩
theorem d_X6_placesAtFirst_0 : pm_i e_X6_placesAtFirst 0 .aload_n .aload 0 1 := Or.inl ⟨0, by decide +kernel, rfl, rfl⟩
theorem d_X6_placesAtFirst_1 : pm_i e_X6_placesAtFirst 1 .aload_n .aload 0 2 := Or.inl ⟨0, by decide +kernel, rfl, rfl⟩
theorem d_X6_placesAtFirst_2 : pm_F e_X6_placesAtFirst 2 .getfield (RX6, "bundle", "I") 5 := ⟨9, by decide +kernel, rfl, Or.inl wm_240⟩
theorem d_X6_placesAtFirst_5_6 : pm_kV e_X6_placesAtFirst 5 e_X6_placesOf RX6 1 8 := ⟨32, by decide +kernel, rfl, fit_X6_placesAtFirst_X6_placesOf, wm_320, Or.inl ⟨wm_319, wm_321⟩⟩
theorem d_X6_placesAtFirst_5_7 : pm_kV e_X6_placesAtFirst 5 e_X6_placesOf RX7 1 8 := ⟨32, by decide +kernel, rfl, fit_X6_placesAtFirst_X6_placesOf, wm_320, Or.inl ⟨wm_319, wm_323⟩⟩
theorem d_X6_placesAtFirst_8 : pm_D e_X6_placesAtFirst 8 1 (.ireturn) 9 := ⟨by decide +kernel, rfl⟩
theorem d_X6_lineOf_0 : pm_i e_X6_lineOf 0 .aload_n .aload 0 1 := Or.inl ⟨0, by decide +kernel, rfl, rfl⟩
theorem d_X6_lineOf_1 : pm_F e_X6_lineOf 1 .getfield (RX6, "by", "I") 4 := ⟨15, by decide +kernel, rfl, Or.inl wm_242⟩
theorem d_X6_lineOf_4 : pm_P e_X6_lineOf 4 1 5 := Or.inl ⟨1, by decide +kernel, by decide +kernel, rfl⟩
theorem d_X6_lineOf_5 : pm_B e_X6_lineOf 5 (fun z => .if_icmp .ge z) 12 8 := ⟨7, by decide +kernel, by decide, rfl⟩
theorem d_X6_lineOf_8 : pm_P e_X6_lineOf 8 0 9 := Or.inl ⟨0, by decide +kernel, by decide +kernel, rfl⟩
theorem d_X6_lineOf_9 : pm_B e_X6_lineOf 9 (fun z => .goto z) 18 12 := ⟨9, by decide +kernel, by decide, rfl⟩
theorem d_X6_lineOf_12 : pm_i e_X6_lineOf 12 .iload_n .iload 1 13 := Or.inl ⟨1, by decide +kernel, rfl, rfl⟩
theorem d_X6_lineOf_13 : pm_i e_X6_lineOf 13 .aload_n .aload 0 14 := Or.inl ⟨0, by decide +kernel, rfl, rfl⟩
theorem d_X6_lineOf_14 : pm_F e_X6_lineOf 14 .getfield (RX6, "by", "I") 17 := ⟨15, by decide +kernel, rfl, Or.inl wm_242⟩
theorem d_X6_lineOf_17 : pm_D e_X6_lineOf 17 1 (.idiv) 18 := ⟨by decide +kernel, rfl⟩
theorem d_X6_lineOf_18 : pm_D e_X6_lineOf 18 1 (.ireturn) 19 := ⟨by decide +kernel, rfl⟩
theorem d_X6_leftOf_0 : pm_i e_X6_leftOf 0 .iload_n .iload 1 1 := Or.inl ⟨1, by decide +kernel, rfl, rfl⟩
theorem d_X6_leftOf_1 : pm_i e_X6_leftOf 1 .aload_n .aload 0 2 := Or.inl ⟨0, by decide +kernel, rfl, rfl⟩
theorem d_X6_leftOf_2 : pm_F e_X6_leftOf 2 .getfield (RX6, "fingers", "I") 5 := ⟨18, by decide +kernel, rfl, Or.inl wm_243⟩
theorem d_X6_leftOf_5 : pm_D e_X6_leftOf 5 1 (.isub) 6 := ⟨by decide +kernel, rfl⟩
theorem d_X6_leftOf_6 : pm_i e_X6_leftOf 6 .iload_n .iload 2 7 := Or.inl ⟨2, by decide +kernel, rfl, rfl⟩
theorem d_X6_leftOf_7 : pm_D e_X6_leftOf 7 1 (.isub) 8 := ⟨by decide +kernel, rfl⟩
theorem d_X6_leftOf_8 : pm_i e_X6_leftOf 8 .istore_n .istore 3 9 := Or.inl ⟨3, by decide +kernel, rfl, rfl⟩
theorem d_X6_leftOf_9 : pm_i e_X6_leftOf 9 .iload_n .iload 2 10 := Or.inl ⟨2, by decide +kernel, rfl, rfl⟩
theorem d_X6_leftOf_10 : pm_i e_X6_leftOf 10 .aload_n .aload 0 11 := Or.inl ⟨0, by decide +kernel, rfl, rfl⟩
theorem d_X6_leftOf_11 : pm_i e_X6_leftOf 11 .iload_n .iload 2 12 := Or.inl ⟨2, by decide +kernel, rfl, rfl⟩
theorem d_X6_leftOf_12 : pm_kV e_X6_leftOf 12 e_X6_rest RX6 1 15 := ⟨35, by decide +kernel, rfl, fit_X6_leftOf_X6_rest, wm_311, Or.inl ⟨wm_309, wm_2⟩⟩
theorem d_X6_leftOf_15 : pm_D e_X6_leftOf 15 1 (.isub) 16 := ⟨by decide +kernel, rfl⟩
theorem d_X6_leftOf_16 : pm_i e_X6_leftOf 16 .iload_n .iload 3 17 := Or.inl ⟨3, by decide +kernel, rfl, rfl⟩
theorem d_X6_leftOf_17 : pm_D e_X6_leftOf 17 1 (.iadd) 18 := ⟨by decide +kernel, rfl⟩
theorem d_X6_leftOf_18 : pm_i e_X6_leftOf 18 .aload_n .aload 0 19 := Or.inl ⟨0, by decide +kernel, rfl, rfl⟩
theorem d_X6_leftOf_19 : pm_i e_X6_leftOf 19 .iload_n .iload 3 20 := Or.inl ⟨3, by decide +kernel, rfl, rfl⟩
theorem d_X6_leftOf_20 : pm_kV e_X6_leftOf 20 e_X6_rest RX6 1 23 := ⟨35, by decide +kernel, rfl, fit_X6_leftOf_X6_rest, wm_311, Or.inl ⟨wm_309, wm_2⟩⟩
theorem d_X6_leftOf_23 : pm_D e_X6_leftOf 23 1 (.isub) 24 := ⟨by decide +kernel, rfl⟩
theorem d_X6_leftOf_24 : pm_D e_X6_leftOf 24 1 (.ireturn) 25 := ⟨by decide +kernel, rfl⟩
theorem d_X6_partedAt_0 : pm_i e_X6_partedAt 0 .iload_n .iload 1 1 := Or.inl ⟨1, by decide +kernel, rfl, rfl⟩
theorem d_X6_partedAt_1 : pm_P e_X6_partedAt 1 2 2 := Or.inl ⟨2, by decide +kernel, by decide +kernel, rfl⟩
theorem d_X6_partedAt_2 : pm_B e_X6_partedAt 2 (fun z => .if_icmp .ge z) 7 5 := ⟨5, by decide +kernel, by decide, rfl⟩
theorem d_X6_partedAt_5 : pm_i e_X6_partedAt 5 .iload_n .iload 1 6 := Or.inl ⟨1, by decide +kernel, rfl, rfl⟩
theorem d_X6_partedAt_6 : pm_D e_X6_partedAt 6 1 (.ireturn) 7 := ⟨by decide +kernel, rfl⟩
theorem d_X6_partedAt_7 : pm_i e_X6_partedAt 7 .iload_n .iload 2 8 := Or.inl ⟨2, by decide +kernel, rfl, rfl⟩
theorem d_X6_partedAt_8 : pm_P e_X6_partedAt 8 1 9 := Or.inl ⟨1, by decide +kernel, by decide +kernel, rfl⟩
theorem d_X6_partedAt_9 : pm_B e_X6_partedAt 9 (fun z => .if_icmp .lt z) 17 12 := ⟨8, by decide +kernel, by decide, rfl⟩
theorem d_X6_partedAt_12 : pm_i e_X6_partedAt 12 .iload_n .iload 2 13 := Or.inl ⟨2, by decide +kernel, rfl, rfl⟩
theorem d_X6_partedAt_13 : pm_i e_X6_partedAt 13 .iload_n .iload 1 14 := Or.inl ⟨1, by decide +kernel, rfl, rfl⟩
theorem d_X6_partedAt_14 : pm_B e_X6_partedAt 14 (fun z => .if_icmp .lt z) 21 17 := ⟨7, by decide +kernel, by decide, rfl⟩
theorem d_X6_partedAt_17 : pm_P e_X6_partedAt 17 (-1) 18 := Or.inl ⟨-1, by decide +kernel, by decide +kernel, rfl⟩
theorem d_X6_partedAt_18 : pm_B e_X6_partedAt 18 (fun z => .goto z) 27 21 := ⟨9, by decide +kernel, by decide, rfl⟩
theorem d_X6_partedAt_21 : pm_i e_X6_partedAt 21 .aload_n .aload 0 22 := Or.inl ⟨0, by decide +kernel, rfl, rfl⟩
theorem d_X6_partedAt_22 : pm_i e_X6_partedAt 22 .iload_n .iload 1 23 := Or.inl ⟨1, by decide +kernel, rfl, rfl⟩
theorem d_X6_partedAt_23 : pm_i e_X6_partedAt 23 .iload_n .iload 2 24 := Or.inl ⟨2, by decide +kernel, rfl, rfl⟩
theorem d_X6_partedAt_24_6 : pm_kV e_X6_partedAt 24 e_X6_leftOf RX6 2 27 := ⟨38, by decide +kernel, rfl, fit_X6_partedAt_X6_leftOf, wm_304, Or.inl ⟨wm_358, wm_305⟩⟩
theorem d_X6_partedAt_24_7 : pm_kV e_X6_partedAt 24 e_X6_leftOf RX7 2 27 := ⟨38, by decide +kernel, rfl, fit_X6_partedAt_X6_leftOf, wm_304, Or.inl ⟨wm_358, wm_307⟩⟩
theorem d_X6_partedAt_27 : pm_D e_X6_partedAt 27 1 (.ireturn) 28 := ⟨by decide +kernel, rfl⟩
theorem d_X6_castLine_0 : pm_i e_X6_castLine 0 .aload_n .aload 0 1 := Or.inl ⟨0, by decide +kernel, rfl, rfl⟩
theorem d_X6_castLine_1 : pm_F e_X6_castLine 1 .getfield (RX6, "bundle", "I") 4 := ⟨9, by decide +kernel, rfl, Or.inl wm_240⟩
theorem d_X6_castLine_4 : pm_i e_X6_castLine 4 .istore_n .istore 2 5 := Or.inl ⟨2, by decide +kernel, rfl, rfl⟩
theorem d_X6_castLine_5 : pm_P e_X6_castLine 5 0 6 := Or.inl ⟨0, by decide +kernel, by decide +kernel, rfl⟩
theorem d_X6_castLine_6 : pm_i e_X6_castLine 6 .istore_n .istore 3 7 := Or.inl ⟨3, by decide +kernel, rfl, rfl⟩
theorem d_X6_castLine_7 : pm_i e_X6_castLine 7 .iload_n .iload 3 8 := Or.inl ⟨3, by decide +kernel, rfl, rfl⟩
theorem d_X6_castLine_8 : pm_P e_X6_castLine 8 3 9 := Or.inl ⟨3, by decide +kernel, by decide +kernel, rfl⟩
theorem d_X6_castLine_9 : pm_B e_X6_castLine 9 (fun z => .if_icmp .ge z) 44 12 := ⟨35, by decide +kernel, by decide, rfl⟩
theorem d_X6_castLine_12 : pm_i e_X6_castLine 12 .iload_n .iload 2 13 := Or.inl ⟨2, by decide +kernel, rfl, rfl⟩
theorem d_X6_castLine_13 : pm_P e_X6_castLine 13 2 14 := Or.inl ⟨2, by decide +kernel, by decide +kernel, rfl⟩
theorem d_X6_castLine_14 : pm_B e_X6_castLine 14 (fun z => .if_icmp .lt z) 44 17 := ⟨30, by decide +kernel, by decide, rfl⟩
theorem d_X6_castLine_17 : pm_i e_X6_castLine 17 .aload_n .aload 0 18 := Or.inl ⟨0, by decide +kernel, rfl, rfl⟩
theorem d_X6_castLine_18 : pm_i e_X6_castLine 18 .iload_n .iload 2 19 := Or.inl ⟨2, by decide +kernel, rfl, rfl⟩
theorem d_X6_castLine_19 : pm_i e_X6_castLine 19 .aload_n .aload 0 20 := Or.inl ⟨0, by decide +kernel, rfl, rfl⟩
theorem d_X6_castLine_20 : pm_i e_X6_castLine 20 .iload_n .iload 2 21 := Or.inl ⟨2, by decide +kernel, rfl, rfl⟩
theorem d_X6_castLine_21_6 : pm_kV e_X6_castLine 21 e_X6_firstPlace RX6 1 24 := ⟨29, by decide +kernel, rfl, fit_X6_castLine_X6_firstPlace, wm_334, Or.inl ⟨wm_333, wm_335⟩⟩
theorem d_X6_castLine_21_7 : pm_kV e_X6_castLine 21 e_X7_firstPlace RX7 1 24 := ⟨29, by decide +kernel, rfl, fit_X6_castLine_X7_firstPlace, wm_338, Or.inr (Or.inr ⟨yX6_firstPlace, RX6, _, _, _, wm_333, wm_336, wm_337, ⟨by decide +kernel, by decide +kernel⟩, wm_334, wm_340, by decide +kernel⟩)⟩
theorem d_X6_castLine_24 : pm_i e_X6_castLine 24 .aload_n .aload 1 25 := Or.inl ⟨1, by decide +kernel, rfl, rfl⟩
theorem d_X6_castLine_25 : pm_i e_X6_castLine 25 .aload_n .aload 0 26 := Or.inl ⟨0, by decide +kernel, rfl, rfl⟩
theorem d_X6_castLine_26 : pm_i e_X6_castLine 26 .iload_n .iload 2 27 := Or.inl ⟨2, by decide +kernel, rfl, rfl⟩
theorem d_X6_castLine_27_6 : pm_kV e_X6_castLine 27 e_X6_placesOf RX6 1 30 := ⟨32, by decide +kernel, rfl, fit_X6_castLine_X6_placesOf, wm_320, Or.inl ⟨wm_319, wm_321⟩⟩
theorem d_X6_castLine_27_7 : pm_kV e_X6_castLine 27 e_X6_placesOf RX7 1 30 := ⟨32, by decide +kernel, rfl, fit_X6_castLine_X6_placesOf, wm_320, Or.inl ⟨wm_319, wm_323⟩⟩
theorem d_X6_castLine_30 : pm_kV e_X6_castLine 30 e_X5_nextBelow RX5 1 33 := ⟨42, by decide +kernel, rfl, fit_X6_castLine_X5_nextBelow, wm_450, Or.inl ⟨wm_458, wm_451⟩⟩
theorem d_X6_castLine_33 : pm_D e_X6_castLine 33 1 (.iadd) 34 := ⟨by decide +kernel, rfl⟩
theorem d_X6_castLine_34_6 : pm_kV e_X6_castLine 34 e_X6_leftOf RX6 2 37 := ⟨38, by decide +kernel, rfl, fit_X6_castLine_X6_leftOf, wm_304, Or.inl ⟨wm_358, wm_305⟩⟩
theorem d_X6_castLine_34_7 : pm_kV e_X6_castLine 34 e_X6_leftOf RX7 2 37 := ⟨38, by decide +kernel, rfl, fit_X6_castLine_X6_leftOf, wm_304, Or.inl ⟨wm_358, wm_307⟩⟩
theorem d_X6_castLine_37 : pm_i e_X6_castLine 37 .istore_n .istore 2 38 := Or.inl ⟨2, by decide +kernel, rfl, rfl⟩
theorem d_X6_castLine_38 : pm_I e_X6_castLine 38 3 1 41 := ⟨1, by decide +kernel, by decide +kernel, rfl⟩
theorem d_X6_castLine_41 : pm_B e_X6_castLine 41 (fun z => .goto z) 7 44 := ⟨-34, by decide +kernel, by decide, rfl⟩
theorem d_X6_castLine_44 : pm_i e_X6_castLine 44 .aload_n .aload 0 45 := Or.inl ⟨0, by decide +kernel, rfl, rfl⟩
theorem d_X6_castLine_45 : pm_i e_X6_castLine 45 .iload_n .iload 2 46 := Or.inl ⟨2, by decide +kernel, rfl, rfl⟩
theorem d_X6_castLine_46_6 : pm_kV e_X6_castLine 46 e_X6_lineOf RX6 1 49 := ⟨47, by decide +kernel, rfl, fit_X6_castLine_X6_lineOf, wm_364, Or.inl ⟨wm_419, wm_365⟩⟩
theorem d_X6_castLine_46_7 : pm_kV e_X6_castLine 46 e_X6_lineOf RX7 1 49 := ⟨47, by decide +kernel, rfl, fit_X6_castLine_X6_lineOf, wm_364, Or.inl ⟨wm_419, wm_367⟩⟩
theorem d_X6_castLine_49 : pm_D e_X6_castLine 49 1 (.ireturn) 50 := ⟨by decide +kernel, rfl⟩
theorem d_X6_weigh_0 : pm_i e_X6_weigh 0 .aload_n .aload 0 1 := Or.inl ⟨0, by decide +kernel, rfl, rfl⟩
theorem d_X6_weigh_1 : pm_i e_X6_weigh 1 .aload_n .aload 0 2 := Or.inl ⟨0, by decide +kernel, rfl, rfl⟩
theorem d_X6_weigh_2 : pm_F e_X6_weigh 2 .getfield (RX6, "bundle", "I") 5 := ⟨9, by decide +kernel, rfl, Or.inl wm_240⟩
theorem d_X6_weigh_5 : pm_i e_X6_weigh 5 .aload_n .aload 1 6 := Or.inl ⟨1, by decide +kernel, rfl, rfl⟩
theorem d_X6_weigh_6_6 : pm_kV e_X6_weigh 6 e_X6_weighBundle RX6 2 9 := ⟨50, by decide +kernel, rfl, fit_X6_weigh_X6_weighBundle, wm_393, Or.inl ⟨wm_392, wm_394⟩⟩
theorem d_X6_weigh_6_7 : pm_kV e_X6_weigh 6 e_X6_weighBundle RX7 2 9 := ⟨50, by decide +kernel, rfl, fit_X6_weigh_X6_weighBundle, wm_393, Or.inl ⟨wm_392, wm_396⟩⟩
theorem d_X6_weigh_9 : pm_D e_X6_weigh 9 1 (.return_) 10 := ⟨by decide +kernel, rfl⟩
theorem d_X6_weighBundle_0 : pm_i e_X6_weighBundle 0 .aload_n .aload 2 1 := Or.inl ⟨2, by decide +kernel, rfl, rfl⟩
theorem d_X6_weighBundle_1 : pm_i e_X6_weighBundle 1 .iload_n .iload 1 2 := Or.inl ⟨1, by decide +kernel, rfl, rfl⟩
theorem d_X6_weighBundle_2 : pm_kV e_X6_weighBundle 2 e_X4_beginBundle RX4 1 5 := ⟨54, by decide +kernel, rfl, fit_X6_weighBundle_X4_beginBundle, wm_399, Or.inl ⟨wm_398, wm_400⟩⟩
theorem d_X6_weighBundle_5 : pm_P e_X6_weighBundle 5 0 6 := Or.inl ⟨0, by decide +kernel, by decide +kernel, rfl⟩
theorem d_X6_weighBundle_6 : pm_i e_X6_weighBundle 6 .istore_n .istore 3 7 := Or.inl ⟨3, by decide +kernel, rfl, rfl⟩
theorem d_X6_weighBundle_7 : pm_i e_X6_weighBundle 7 .iload_n .iload 3 8 := Or.inl ⟨3, by decide +kernel, rfl, rfl⟩
theorem d_X6_weighBundle_8 : pm_P e_X6_weighBundle 8 3 9 := Or.inl ⟨3, by decide +kernel, by decide +kernel, rfl⟩
theorem d_X6_weighBundle_9 : pm_B e_X6_weighBundle 9 (fun z => .if_icmp .ge z) 23 12 := ⟨14, by decide +kernel, by decide, rfl⟩
theorem d_X6_weighBundle_12 : pm_i e_X6_weighBundle 12 .aload_n .aload 0 13 := Or.inl ⟨0, by decide +kernel, rfl, rfl⟩
theorem d_X6_weighBundle_13 : pm_i e_X6_weighBundle 13 .aload_n .aload 2 14 := Or.inl ⟨2, by decide +kernel, rfl, rfl⟩
theorem d_X6_weighBundle_14 : pm_kV e_X6_weighBundle 14 e_X6_partHeaps RX6 1 17 := ⟨60, by decide +kernel, rfl, fit_X6_weighBundle_X6_partHeaps, wm_405, Or.inl ⟨wm_403, wm_4⟩⟩
theorem d_X6_weighBundle_17 : pm_I e_X6_weighBundle 17 3 1 20 := ⟨1, by decide +kernel, by decide +kernel, rfl⟩
theorem d_X6_weighBundle_20 : pm_B e_X6_weighBundle 20 (fun z => .goto z) 7 23 := ⟨-13, by decide +kernel, by decide, rfl⟩
theorem d_X6_weighBundle_23 : pm_P e_X6_weighBundle 23 0 24 := Or.inl ⟨0, by decide +kernel, by decide +kernel, rfl⟩
theorem d_X6_weighBundle_24 : pm_i e_X6_weighBundle 24 .istore_n .istore 3 25 := Or.inl ⟨3, by decide +kernel, rfl, rfl⟩
theorem d_X6_weighBundle_25 : pm_i e_X6_weighBundle 25 .iload_n .iload 3 26 := Or.inl ⟨3, by decide +kernel, rfl, rfl⟩
theorem d_X6_weighBundle_26 : pm_P e_X6_weighBundle 26 60 28 := Or.inr <| Or.inl ⟨60, by decide +kernel, by decide +kernel, rfl⟩
theorem d_X6_weighBundle_28 : pm_B e_X6_weighBundle 28 (fun z => .if_icmp .gt z) 72 31 := ⟨44, by decide +kernel, by decide, rfl⟩
theorem d_X6_weighBundle_31 : pm_i e_X6_weighBundle 31 .aload_n .aload 0 32 := Or.inl ⟨0, by decide +kernel, rfl, rfl⟩
theorem d_X6_weighBundle_32 : pm_i e_X6_weighBundle 32 .iload_n .iload 3 33 := Or.inl ⟨3, by decide +kernel, rfl, rfl⟩
theorem d_X6_weighBundle_33_6 : pm_kV e_X6_weighBundle 33 e_X6_lineOf RX6 1 36 := ⟨47, by decide +kernel, rfl, fit_X6_weighBundle_X6_lineOf, wm_364, Or.inl ⟨wm_419, wm_365⟩⟩
theorem d_X6_weighBundle_33_7 : pm_kV e_X6_weighBundle 33 e_X6_lineOf RX7 1 36 := ⟨47, by decide +kernel, rfl, fit_X6_weighBundle_X6_lineOf, wm_364, Or.inl ⟨wm_419, wm_367⟩⟩
theorem d_X6_weighBundle_36 : pm_i e_X6_weighBundle 36 .istore_n .istore 4 38 := Or.inr ⟨by decide +kernel, rfl⟩
theorem d_X6_weighBundle_38 : pm_i e_X6_weighBundle 38 .iload_n .iload 4 40 := Or.inr ⟨by decide +kernel, rfl⟩
theorem d_X6_weighBundle_40 : pm_B e_X6_weighBundle 40 (fun z => .ifCond .lt z) 66 43 := ⟨26, by decide +kernel, by decide, rfl⟩
theorem d_X6_weighBundle_43 : pm_i e_X6_weighBundle 43 .iload_n .iload 4 45 := Or.inr ⟨by decide +kernel, rfl⟩
theorem d_X6_weighBundle_45 : pm_P e_X6_weighBundle 45 30 47 := Or.inr <| Or.inl ⟨30, by decide +kernel, by decide +kernel, rfl⟩
theorem d_X6_weighBundle_47 : pm_B e_X6_weighBundle 47 (fun z => .if_icmp .gt z) 66 50 := ⟨19, by decide +kernel, by decide, rfl⟩
theorem d_X6_weighBundle_50 : pm_i e_X6_weighBundle 50 .aload_n .aload 2 51 := Or.inl ⟨2, by decide +kernel, rfl, rfl⟩
theorem d_X6_weighBundle_51 : pm_F e_X6_weighBundle 51 .getfield (RX4, "weights", "[J") 54 := ⟨64, by decide +kernel, rfl, Or.inr ⟨_, wm_127⟩⟩
theorem d_X6_weighBundle_54 : pm_i e_X6_weighBundle 54 .iload_n .iload 4 56 := Or.inr ⟨by decide +kernel, rfl⟩
theorem d_X6_weighBundle_56 : pm_D e_X6_weighBundle 56 1 (.dup2) 57 := ⟨by decide +kernel, rfl⟩
theorem d_X6_weighBundle_57 : pm_D e_X6_weighBundle 57 1 (.laload) 58 := ⟨by decide +kernel, rfl⟩
theorem d_X6_weighBundle_58 : pm_i e_X6_weighBundle 58 .aload_n .aload 2 59 := Or.inl ⟨2, by decide +kernel, rfl, rfl⟩
theorem d_X6_weighBundle_59 : pm_F e_X6_weighBundle 59 .getfield (RX4, "heaps", "[J") 62 := ⟨68, by decide +kernel, rfl, Or.inr ⟨_, wm_129⟩⟩
theorem d_X6_weighBundle_62 : pm_i e_X6_weighBundle 62 .iload_n .iload 3 63 := Or.inl ⟨3, by decide +kernel, rfl, rfl⟩
theorem d_X6_weighBundle_63 : pm_D e_X6_weighBundle 63 1 (.laload) 64 := ⟨by decide +kernel, rfl⟩
theorem d_X6_weighBundle_64 : pm_D e_X6_weighBundle 64 1 (.ladd) 65 := ⟨by decide +kernel, rfl⟩
theorem d_X6_weighBundle_65 : pm_D e_X6_weighBundle 65 1 (.lastore) 66 := ⟨by decide +kernel, rfl⟩
theorem d_X6_weighBundle_66 : pm_I e_X6_weighBundle 66 3 1 69 := ⟨1, by decide +kernel, by decide +kernel, rfl⟩
theorem d_X6_weighBundle_69 : pm_B e_X6_weighBundle 69 (fun z => .goto z) 25 72 := ⟨-44, by decide +kernel, by decide, rfl⟩
theorem d_X6_weighBundle_72 : pm_D e_X6_weighBundle 72 1 (.return_) 73 := ⟨by decide +kernel, rfl⟩
theorem d_X6_partHeaps_0 : pm_i e_X6_partHeaps 0 .aload_n .aload 0 1 := Or.inl ⟨0, by decide +kernel, rfl, rfl⟩
theorem d_X6_partHeaps_1 : pm_i e_X6_partHeaps 1 .aload_n .aload 1 2 := Or.inl ⟨1, by decide +kernel, rfl, rfl⟩
theorem d_X6_partHeaps_2 : pm_F e_X6_partHeaps 2 .getfield (RX4, "heaps", "[J") 5 := ⟨68, by decide +kernel, rfl, Or.inr ⟨_, wm_129⟩⟩
theorem d_X6_partHeaps_5 : pm_kV e_X6_partHeaps 5 e_X6_sharesOf RX6 1 8 := ⟨71, by decide +kernel, rfl, fit_X6_partHeaps_X6_sharesOf, wm_409, Or.inl ⟨wm_407, wm_5⟩⟩
theorem d_X6_partHeaps_8 : pm_i e_X6_partHeaps 8 .lstore_n .lstore 2 9 := Or.inl ⟨2, by decide +kernel, rfl, rfl⟩
theorem d_X6_partHeaps_9 : pm_i e_X6_partHeaps 9 .aload_n .aload 1 10 := Or.inl ⟨1, by decide +kernel, rfl, rfl⟩
theorem d_X6_partHeaps_10 : pm_D e_X6_partHeaps 10 1 (.dup) 11 := ⟨by decide +kernel, rfl⟩
theorem d_X6_partHeaps_11 : pm_F e_X6_partHeaps 11 .getfield (RX4, "all", "J") 14 := ⟨75, by decide +kernel, rfl, Or.inr ⟨_, wm_134⟩⟩
theorem d_X6_partHeaps_14 : pm_i e_X6_partHeaps 14 .lload_n .lload 2 15 := Or.inl ⟨2, by decide +kernel, rfl, rfl⟩
theorem d_X6_partHeaps_15 : pm_D e_X6_partHeaps 15 1 (.lmul) 16 := ⟨by decide +kernel, rfl⟩
theorem d_X6_partHeaps_16 : pm_F e_X6_partHeaps 16 .putfield (RX4, "all", "J") 19 := ⟨75, by decide +kernel, rfl, Or.inr ⟨_, wm_134⟩⟩
theorem d_X6_partHeaps_19 : pm_i e_X6_partHeaps 19 .aload_n .aload 1 20 := Or.inl ⟨1, by decide +kernel, rfl, rfl⟩
theorem d_X6_partHeaps_20 : pm_F e_X6_partHeaps 20 .getfield (RX4, "nextHeaps", "[J") 23 := ⟨79, by decide +kernel, rfl, Or.inr ⟨_, wm_131⟩⟩
theorem d_X6_partHeaps_23 : pm_PL e_X6_partHeaps 23 0 24 := Or.inl ⟨0, by decide +kernel, by decide +kernel, rfl⟩
theorem d_X6_partHeaps_24 : pm_kS e_X6_partHeaps 24 e_J7_fill_d0a16 2 27 := ⟨82, by decide +kernel, rfl, fit_X6_partHeaps_J7_fill_d0a16, wm_386, Or.inl wm_411⟩
theorem d_X6_partHeaps_27 : pm_P e_X6_partHeaps 27 0 28 := Or.inl ⟨0, by decide +kernel, by decide +kernel, rfl⟩
theorem d_X6_partHeaps_28 : pm_i e_X6_partHeaps 28 .istore_n .istore 4 30 := Or.inr ⟨by decide +kernel, rfl⟩
theorem d_X6_partHeaps_30 : pm_i e_X6_partHeaps 30 .iload_n .iload 4 32 := Or.inr ⟨by decide +kernel, rfl⟩
theorem d_X6_partHeaps_32 : pm_P e_X6_partHeaps 32 60 34 := Or.inr <| Or.inl ⟨60, by decide +kernel, by decide +kernel, rfl⟩
theorem d_X6_partHeaps_34 : pm_B e_X6_partHeaps 34 (fun z => .if_icmp .gt z) 74 37 := ⟨40, by decide +kernel, by decide, rfl⟩
theorem d_X6_partHeaps_37 : pm_i e_X6_partHeaps 37 .aload_n .aload 1 38 := Or.inl ⟨1, by decide +kernel, rfl, rfl⟩
theorem d_X6_partHeaps_38 : pm_F e_X6_partHeaps 38 .getfield (RX4, "heaps", "[J") 41 := ⟨68, by decide +kernel, rfl, Or.inr ⟨_, wm_129⟩⟩
theorem d_X6_partHeaps_41 : pm_i e_X6_partHeaps 41 .iload_n .iload 4 43 := Or.inr ⟨by decide +kernel, rfl⟩
theorem d_X6_partHeaps_43 : pm_D e_X6_partHeaps 43 1 (.laload) 44 := ⟨by decide +kernel, rfl⟩
theorem d_X6_partHeaps_44 : pm_PL e_X6_partHeaps 44 0 45 := Or.inl ⟨0, by decide +kernel, by decide +kernel, rfl⟩
theorem d_X6_partHeaps_45 : pm_D e_X6_partHeaps 45 1 (.lcmp) 46 := ⟨by decide +kernel, rfl⟩
theorem d_X6_partHeaps_46 : pm_B e_X6_partHeaps 46 (fun z => .ifCond .le z) 68 49 := ⟨22, by decide +kernel, by decide, rfl⟩
theorem d_X6_partHeaps_49 : pm_i e_X6_partHeaps 49 .aload_n .aload 0 50 := Or.inl ⟨0, by decide +kernel, rfl, rfl⟩
theorem d_X6_partHeaps_50 : pm_i e_X6_partHeaps 50 .iload_n .iload 4 52 := Or.inr ⟨by decide +kernel, rfl⟩
theorem d_X6_partHeaps_52 : pm_i e_X6_partHeaps 52 .aload_n .aload 1 53 := Or.inl ⟨1, by decide +kernel, rfl, rfl⟩
theorem d_X6_partHeaps_53 : pm_F e_X6_partHeaps 53 .getfield (RX4, "heaps", "[J") 56 := ⟨68, by decide +kernel, rfl, Or.inr ⟨_, wm_129⟩⟩
theorem d_X6_partHeaps_56 : pm_i e_X6_partHeaps 56 .iload_n .iload 4 58 := Or.inr ⟨by decide +kernel, rfl⟩
theorem d_X6_partHeaps_58 : pm_D e_X6_partHeaps 58 1 (.laload) 59 := ⟨by decide +kernel, rfl⟩
theorem d_X6_partHeaps_59 : pm_i e_X6_partHeaps 59 .lload_n .lload 2 60 := Or.inl ⟨2, by decide +kernel, rfl, rfl⟩
theorem d_X6_partHeaps_60 : pm_D e_X6_partHeaps 60 1 (.lmul) 61 := ⟨by decide +kernel, rfl⟩
theorem d_X6_partHeaps_61 : pm_i e_X6_partHeaps 61 .aload_n .aload 1 62 := Or.inl ⟨1, by decide +kernel, rfl, rfl⟩
theorem d_X6_partHeaps_62 : pm_F e_X6_partHeaps 62 .getfield (RX4, "nextHeaps", "[J") 65 := ⟨79, by decide +kernel, rfl, Or.inr ⟨_, wm_131⟩⟩
theorem d_X6_partHeaps_65 : pm_kV e_X6_partHeaps 65 e_X6_partHeap RX6 3 68 := ⟨88, by decide +kernel, rfl, fit_X6_partHeaps_X6_partHeap, wm_414, Or.inl ⟨wm_412, wm_6⟩⟩
theorem d_X6_partHeaps_68 : pm_I e_X6_partHeaps 68 4 1 71 := ⟨1, by decide +kernel, by decide +kernel, rfl⟩
theorem d_X6_partHeaps_71 : pm_B e_X6_partHeaps 71 (fun z => .goto z) 30 74 := ⟨-41, by decide +kernel, by decide, rfl⟩
theorem d_X6_partHeaps_74 : pm_i e_X6_partHeaps 74 .aload_n .aload 1 75 := Or.inl ⟨1, by decide +kernel, rfl, rfl⟩
theorem d_X6_partHeaps_75 : pm_F e_X6_partHeaps 75 .getfield (RX4, "nextHeaps", "[J") 78 := ⟨79, by decide +kernel, rfl, Or.inr ⟨_, wm_131⟩⟩
theorem d_X6_partHeaps_78 : pm_P e_X6_partHeaps 78 0 79 := Or.inl ⟨0, by decide +kernel, by decide +kernel, rfl⟩
theorem d_X6_partHeaps_79 : pm_i e_X6_partHeaps 79 .aload_n .aload 1 80 := Or.inl ⟨1, by decide +kernel, rfl, rfl⟩
theorem d_X6_partHeaps_80 : pm_F e_X6_partHeaps 80 .getfield (RX4, "heaps", "[J") 83 := ⟨68, by decide +kernel, rfl, Or.inr ⟨_, wm_129⟩⟩
theorem d_X6_partHeaps_83 : pm_P e_X6_partHeaps 83 0 84 := Or.inl ⟨0, by decide +kernel, by decide +kernel, rfl⟩
theorem d_X6_partHeaps_84 : pm_i e_X6_partHeaps 84 .aload_n .aload 1 85 := Or.inl ⟨1, by decide +kernel, rfl, rfl⟩
theorem d_X6_partHeaps_85 : pm_F e_X6_partHeaps 85 .getfield (RX4, "heaps", "[J") 88 := ⟨68, by decide +kernel, rfl, Or.inr ⟨_, wm_129⟩⟩
theorem d_X6_partHeaps_88 : pm_D e_X6_partHeaps 88 1 (.arraylength) 89 := ⟨by decide +kernel, rfl⟩
theorem d_X6_partHeaps_89 : pm_D e_X6_partHeaps 89 3 (.invokestatic 92) 92 := ⟨by decide +kernel, rfl⟩
theorem d_X6_partHeaps_92 : pm_D e_X6_partHeaps 92 1 (.return_) 93 := ⟨by decide +kernel, rfl⟩
theorem d_X6_sharesOf_0 : pm_PL e_X6_sharesOf 0 1 1 := Or.inl ⟨1, by decide +kernel, by decide +kernel, rfl⟩
theorem d_X6_sharesOf_1 : pm_i e_X6_sharesOf 1 .lstore_n .lstore 2 2 := Or.inl ⟨2, by decide +kernel, rfl, rfl⟩
theorem d_X6_sharesOf_2 : pm_P e_X6_sharesOf 2 2 3 := Or.inl ⟨2, by decide +kernel, by decide +kernel, rfl⟩
theorem d_X6_sharesOf_3 : pm_i e_X6_sharesOf 3 .istore_n .istore 4 5 := Or.inr ⟨by decide +kernel, rfl⟩
theorem d_X6_sharesOf_5 : pm_i e_X6_sharesOf 5 .iload_n .iload 4 7 := Or.inr ⟨by decide +kernel, rfl⟩
theorem d_X6_sharesOf_7 : pm_i e_X6_sharesOf 7 .aload_n .aload 1 8 := Or.inl ⟨1, by decide +kernel, rfl, rfl⟩
theorem d_X6_sharesOf_8 : pm_D e_X6_sharesOf 8 1 (.arraylength) 9 := ⟨by decide +kernel, rfl⟩
theorem d_X6_sharesOf_9 : pm_B e_X6_sharesOf 9 (fun z => .if_icmp .ge z) 37 12 := ⟨28, by decide +kernel, by decide, rfl⟩
theorem d_X6_sharesOf_12 : pm_i e_X6_sharesOf 12 .aload_n .aload 1 13 := Or.inl ⟨1, by decide +kernel, rfl, rfl⟩
theorem d_X6_sharesOf_13 : pm_i e_X6_sharesOf 13 .iload_n .iload 4 15 := Or.inr ⟨by decide +kernel, rfl⟩
theorem d_X6_sharesOf_15 : pm_D e_X6_sharesOf 15 1 (.laload) 16 := ⟨by decide +kernel, rfl⟩
theorem d_X6_sharesOf_16 : pm_PL e_X6_sharesOf 16 0 17 := Or.inl ⟨0, by decide +kernel, by decide +kernel, rfl⟩
theorem d_X6_sharesOf_17 : pm_D e_X6_sharesOf 17 1 (.lcmp) 18 := ⟨by decide +kernel, rfl⟩
theorem d_X6_sharesOf_18 : pm_B e_X6_sharesOf 18 (fun z => .ifCond .le z) 31 21 := ⟨13, by decide +kernel, by decide, rfl⟩
theorem d_X6_sharesOf_21 : pm_i e_X6_sharesOf 21 .lload_n .lload 2 22 := Or.inl ⟨2, by decide +kernel, rfl, rfl⟩
theorem d_X6_sharesOf_22 : pm_i e_X6_sharesOf 22 .aload_n .aload 0 23 := Or.inl ⟨0, by decide +kernel, rfl, rfl⟩
theorem d_X6_sharesOf_23 : pm_i e_X6_sharesOf 23 .iload_n .iload 4 25 := Or.inr ⟨by decide +kernel, rfl⟩
theorem d_X6_sharesOf_25_6 : pm_kV e_X6_sharesOf 25 e_X6_placesOf RX6 1 28 := ⟨32, by decide +kernel, rfl, fit_X6_sharesOf_X6_placesOf, wm_320, Or.inl ⟨wm_319, wm_321⟩⟩
theorem d_X6_sharesOf_25_7 : pm_kV e_X6_sharesOf 25 e_X6_placesOf RX7 1 28 := ⟨32, by decide +kernel, rfl, fit_X6_sharesOf_X6_placesOf, wm_320, Or.inl ⟨wm_319, wm_323⟩⟩
theorem d_X6_sharesOf_28 : pm_D e_X6_sharesOf 28 1 (.i2l) 29 := ⟨by decide +kernel, rfl⟩
theorem d_X6_sharesOf_29 : pm_D e_X6_sharesOf 29 1 (.lmul) 30 := ⟨by decide +kernel, rfl⟩
theorem d_X6_sharesOf_30 : pm_i e_X6_sharesOf 30 .lstore_n .lstore 2 31 := Or.inl ⟨2, by decide +kernel, rfl, rfl⟩
theorem d_X6_sharesOf_31 : pm_I e_X6_sharesOf 31 4 1 34 := ⟨1, by decide +kernel, by decide +kernel, rfl⟩
theorem d_X6_sharesOf_34 : pm_B e_X6_sharesOf 34 (fun z => .goto z) 5 37 := ⟨-29, by decide +kernel, by decide, rfl⟩
theorem d_X6_sharesOf_37 : pm_i e_X6_sharesOf 37 .lload_n .lload 2 38 := Or.inl ⟨2, by decide +kernel, rfl, rfl⟩
theorem d_X6_sharesOf_38 : pm_D e_X6_sharesOf 38 1 (.lreturn) 39 := ⟨by decide +kernel, rfl⟩
theorem d_X6_partHeap_0 : pm_i e_X6_partHeap 0 .iload_n .iload 1 1 := Or.inl ⟨1, by decide +kernel, rfl, rfl⟩
theorem d_X6_partHeap_1 : pm_P e_X6_partHeap 1 2 2 := Or.inl ⟨2, by decide +kernel, by decide +kernel, rfl⟩
theorem d_X6_partHeap_2 : pm_B e_X6_partHeap 2 (fun z => .if_icmp .ge z) 14 5 := ⟨12, by decide +kernel, by decide, rfl⟩
theorem d_X6_partHeap_5 : pm_i e_X6_partHeap 5 .aload_n .aload 4 7 := Or.inr ⟨by decide +kernel, rfl⟩
theorem d_X6_partHeap_7 : pm_i e_X6_partHeap 7 .iload_n .iload 1 8 := Or.inl ⟨1, by decide +kernel, rfl, rfl⟩
theorem d_X6_partHeap_8 : pm_D e_X6_partHeap 8 1 (.dup2) 9 := ⟨by decide +kernel, rfl⟩
theorem d_X6_partHeap_9 : pm_D e_X6_partHeap 9 1 (.laload) 10 := ⟨by decide +kernel, rfl⟩
theorem d_X6_partHeap_10 : pm_i e_X6_partHeap 10 .lload_n .lload 2 11 := Or.inl ⟨2, by decide +kernel, rfl, rfl⟩
theorem d_X6_partHeap_11 : pm_D e_X6_partHeap 11 1 (.ladd) 12 := ⟨by decide +kernel, rfl⟩
theorem d_X6_partHeap_12 : pm_D e_X6_partHeap 12 1 (.lastore) 13 := ⟨by decide +kernel, rfl⟩
theorem d_X6_partHeap_13 : pm_D e_X6_partHeap 13 1 (.return_) 14 := ⟨by decide +kernel, rfl⟩
theorem d_X6_partHeap_14 : pm_i e_X6_partHeap 14 .aload_n .aload 0 15 := Or.inl ⟨0, by decide +kernel, rfl, rfl⟩
theorem d_X6_partHeap_15 : pm_i e_X6_partHeap 15 .iload_n .iload 1 16 := Or.inl ⟨1, by decide +kernel, rfl, rfl⟩
theorem d_X6_partHeap_16_6 : pm_kV e_X6_partHeap 16 e_X6_placesOf RX6 1 19 := ⟨32, by decide +kernel, rfl, fit_X6_partHeap_X6_placesOf, wm_320, Or.inl ⟨wm_319, wm_321⟩⟩
theorem d_X6_partHeap_16_7 : pm_kV e_X6_partHeap 16 e_X6_placesOf RX7 1 19 := ⟨32, by decide +kernel, rfl, fit_X6_partHeap_X6_placesOf, wm_320, Or.inl ⟨wm_319, wm_323⟩⟩
theorem d_X6_partHeap_19 : pm_i e_X6_partHeap 19 .istore_n .istore 5 21 := Or.inr ⟨by decide +kernel, rfl⟩
theorem d_X6_partHeap_21 : pm_i e_X6_partHeap 21 .iload_n .iload 5 23 := Or.inr ⟨by decide +kernel, rfl⟩
theorem d_X6_partHeap_23 : pm_P e_X6_partHeap 23 1 24 := Or.inl ⟨1, by decide +kernel, by decide +kernel, rfl⟩
theorem d_X6_partHeap_24 : pm_B e_X6_partHeap 24 (fun z => .if_icmp .ge z) 31 27 := ⟨7, by decide +kernel, by decide, rfl⟩
theorem d_X6_partHeap_27 : pm_PL e_X6_partHeap 27 0 28 := Or.inl ⟨0, by decide +kernel, by decide +kernel, rfl⟩
theorem d_X6_partHeap_28 : pm_B e_X6_partHeap 28 (fun z => .goto z) 36 31 := ⟨8, by decide +kernel, by decide, rfl⟩
theorem d_X6_partHeap_31 : pm_i e_X6_partHeap 31 .lload_n .lload 2 32 := Or.inl ⟨2, by decide +kernel, rfl, rfl⟩
theorem d_X6_partHeap_32 : pm_i e_X6_partHeap 32 .iload_n .iload 5 34 := Or.inr ⟨by decide +kernel, rfl⟩
theorem d_X6_partHeap_34 : pm_D e_X6_partHeap 34 1 (.i2l) 35 := ⟨by decide +kernel, rfl⟩
theorem d_X6_partHeap_35 : pm_D e_X6_partHeap 35 1 (.ldiv) 36 := ⟨by decide +kernel, rfl⟩
theorem d_X6_partHeap_36 : pm_i e_X6_partHeap 36 .lstore_n .lstore 6 38 := Or.inr ⟨by decide +kernel, rfl⟩
theorem d_X6_partHeap_38 : pm_i e_X6_partHeap 38 .aload_n .aload 0 39 := Or.inl ⟨0, by decide +kernel, rfl, rfl⟩
theorem d_X6_partHeap_39 : pm_i e_X6_partHeap 39 .iload_n .iload 1 40 := Or.inl ⟨1, by decide +kernel, rfl, rfl⟩
theorem d_X6_partHeap_40_6 : pm_kV e_X6_partHeap 40 e_X6_firstPlace RX6 1 43 := ⟨29, by decide +kernel, rfl, fit_X6_partHeap_X6_firstPlace, wm_334, Or.inl ⟨wm_333, wm_335⟩⟩
theorem d_X6_partHeap_40_7 : pm_kV e_X6_partHeap 40 e_X7_firstPlace RX7 1 43 := ⟨29, by decide +kernel, rfl, fit_X6_partHeap_X7_firstPlace, wm_338, Or.inr (Or.inr ⟨yX6_firstPlace, RX6, _, _, _, wm_333, wm_336, wm_337, ⟨by decide +kernel, by decide +kernel⟩, wm_334, wm_340, by decide +kernel⟩)⟩
theorem d_X6_partHeap_43 : pm_i e_X6_partHeap 43 .istore_n .istore 8 45 := Or.inr ⟨by decide +kernel, rfl⟩
theorem d_X6_partHeap_45 : pm_i e_X6_partHeap 45 .iload_n .iload 8 47 := Or.inr ⟨by decide +kernel, rfl⟩
theorem d_X6_partHeap_47 : pm_i e_X6_partHeap 47 .istore_n .istore 9 49 := Or.inr ⟨by decide +kernel, rfl⟩
theorem d_X6_partHeap_49 : pm_i e_X6_partHeap 49 .iload_n .iload 9 51 := Or.inr ⟨by decide +kernel, rfl⟩
theorem d_X6_partHeap_51 : pm_i e_X6_partHeap 51 .iload_n .iload 8 53 := Or.inr ⟨by decide +kernel, rfl⟩
theorem d_X6_partHeap_53 : pm_i e_X6_partHeap 53 .iload_n .iload 5 55 := Or.inr ⟨by decide +kernel, rfl⟩
theorem d_X6_partHeap_55 : pm_D e_X6_partHeap 55 1 (.iadd) 56 := ⟨by decide +kernel, rfl⟩
theorem d_X6_partHeap_56 : pm_B e_X6_partHeap 56 (fun z => .if_icmp .ge z) 97 59 := ⟨41, by decide +kernel, by decide, rfl⟩
theorem d_X6_partHeap_59 : pm_i e_X6_partHeap 59 .aload_n .aload 0 60 := Or.inl ⟨0, by decide +kernel, rfl, rfl⟩
theorem d_X6_partHeap_60 : pm_i e_X6_partHeap 60 .iload_n .iload 1 61 := Or.inl ⟨1, by decide +kernel, rfl, rfl⟩
theorem d_X6_partHeap_61 : pm_i e_X6_partHeap 61 .iload_n .iload 9 63 := Or.inr ⟨by decide +kernel, rfl⟩
theorem d_X6_partHeap_63_6 : pm_kV e_X6_partHeap 63 e_X6_leftOf RX6 2 66 := ⟨38, by decide +kernel, rfl, fit_X6_partHeap_X6_leftOf, wm_304, Or.inl ⟨wm_358, wm_305⟩⟩
theorem d_X6_partHeap_63_7 : pm_kV e_X6_partHeap 63 e_X6_leftOf RX7 2 66 := ⟨38, by decide +kernel, rfl, fit_X6_partHeap_X6_leftOf, wm_304, Or.inl ⟨wm_358, wm_307⟩⟩
theorem d_X6_partHeap_66 : pm_i e_X6_partHeap 66 .istore_n .istore 10 68 := Or.inr ⟨by decide +kernel, rfl⟩
theorem d_X6_partHeap_68 : pm_i e_X6_partHeap 68 .iload_n .iload 10 70 := Or.inr ⟨by decide +kernel, rfl⟩
theorem d_X6_partHeap_70 : pm_B e_X6_partHeap 70 (fun z => .ifCond .lt z) 91 73 := ⟨21, by decide +kernel, by decide, rfl⟩
theorem d_X6_partHeap_73 : pm_i e_X6_partHeap 73 .iload_n .iload 10 75 := Or.inr ⟨by decide +kernel, rfl⟩
theorem d_X6_partHeap_75 : pm_i e_X6_partHeap 75 .aload_n .aload 4 77 := Or.inr ⟨by decide +kernel, rfl⟩
theorem d_X6_partHeap_77 : pm_D e_X6_partHeap 77 1 (.arraylength) 78 := ⟨by decide +kernel, rfl⟩
theorem d_X6_partHeap_78 : pm_B e_X6_partHeap 78 (fun z => .if_icmp .ge z) 91 81 := ⟨13, by decide +kernel, by decide, rfl⟩
theorem d_X6_partHeap_81 : pm_i e_X6_partHeap 81 .aload_n .aload 4 83 := Or.inr ⟨by decide +kernel, rfl⟩
theorem d_X6_partHeap_83 : pm_i e_X6_partHeap 83 .iload_n .iload 10 85 := Or.inr ⟨by decide +kernel, rfl⟩
theorem d_X6_partHeap_85 : pm_D e_X6_partHeap 85 1 (.dup2) 86 := ⟨by decide +kernel, rfl⟩
theorem d_X6_partHeap_86 : pm_D e_X6_partHeap 86 1 (.laload) 87 := ⟨by decide +kernel, rfl⟩
theorem d_X6_partHeap_87 : pm_i e_X6_partHeap 87 .lload_n .lload 6 89 := Or.inr ⟨by decide +kernel, rfl⟩
theorem d_X6_partHeap_89 : pm_D e_X6_partHeap 89 1 (.ladd) 90 := ⟨by decide +kernel, rfl⟩
theorem d_X6_partHeap_90 : pm_D e_X6_partHeap 90 1 (.lastore) 91 := ⟨by decide +kernel, rfl⟩
theorem d_X6_partHeap_91 : pm_I e_X6_partHeap 91 9 1 94 := ⟨1, by decide +kernel, by decide +kernel, rfl⟩
theorem d_X6_partHeap_94 : pm_B e_X6_partHeap 94 (fun z => .goto z) 49 97 := ⟨-45, by decide +kernel, by decide, rfl⟩
theorem d_X6_partHeap_97 : pm_D e_X6_partHeap 97 1 (.return_) 98 := ⟨by decide +kernel, rfl⟩
theorem d_X6_rest_0 : pm_i e_X6_rest 0 .iload_n .iload 1 1 := Or.inl ⟨1, by decide +kernel, rfl, rfl⟩
theorem d_X6_rest_1 : pm_P e_X6_rest 1 1 2 := Or.inl ⟨1, by decide +kernel, by decide +kernel, rfl⟩
theorem d_X6_rest_2 : pm_B e_X6_rest 2 (fun z => .if_icmp .lt z) 13 5 := ⟨11, by decide +kernel, by decide, rfl⟩
theorem d_X6_rest_5 : pm_i e_X6_rest 5 .aload_n .aload 0 6 := Or.inl ⟨0, by decide +kernel, rfl, rfl⟩
theorem d_X6_rest_6 : pm_F e_X6_rest 6 .getfield (RX6, "by", "I") 9 := ⟨15, by decide +kernel, rfl, Or.inl wm_242⟩
theorem d_X6_rest_9 : pm_P e_X6_rest 9 1 10 := Or.inl ⟨1, by decide +kernel, by decide +kernel, rfl⟩
theorem d_X6_rest_10 : pm_B e_X6_rest 10 (fun z => .if_icmp .ge z) 15 13 := ⟨5, by decide +kernel, by decide, rfl⟩
theorem d_X6_rest_13 : pm_P e_X6_rest 13 0 14 := Or.inl ⟨0, by decide +kernel, by decide +kernel, rfl⟩
theorem d_X6_rest_14 : pm_D e_X6_rest 14 1 (.ireturn) 15 := ⟨by decide +kernel, rfl⟩
theorem d_X6_rest_15 : pm_i e_X6_rest 15 .iload_n .iload 1 16 := Or.inl ⟨1, by decide +kernel, rfl, rfl⟩
theorem d_X6_rest_16 : pm_i e_X6_rest 16 .aload_n .aload 0 17 := Or.inl ⟨0, by decide +kernel, rfl, rfl⟩
theorem d_X6_rest_17 : pm_F e_X6_rest 17 .getfield (RX6, "by", "I") 20 := ⟨15, by decide +kernel, rfl, Or.inl wm_242⟩
theorem d_X6_rest_20 : pm_D e_X6_rest 20 1 (.irem) 21 := ⟨by decide +kernel, rfl⟩
theorem d_X6_rest_21 : pm_i e_X6_rest 21 .istore_n .istore 2 22 := Or.inl ⟨2, by decide +kernel, rfl, rfl⟩
theorem d_X6_rest_22 : pm_i e_X6_rest 22 .iload_n .iload 2 23 := Or.inl ⟨2, by decide +kernel, rfl, rfl⟩
theorem d_X6_rest_23 : pm_B e_X6_rest 23 (fun z => .ifCond .ne z) 33 26 := ⟨10, by decide +kernel, by decide, rfl⟩
theorem d_X6_rest_26 : pm_i e_X6_rest 26 .aload_n .aload 0 27 := Or.inl ⟨0, by decide +kernel, rfl, rfl⟩
theorem d_X6_rest_27 : pm_F e_X6_rest 27 .getfield (RX6, "by", "I") 30 := ⟨15, by decide +kernel, rfl, Or.inl wm_242⟩
theorem d_X6_rest_30 : pm_B e_X6_rest 30 (fun z => .goto z) 34 33 := ⟨4, by decide +kernel, by decide, rfl⟩
theorem d_X6_rest_33 : pm_i e_X6_rest 33 .iload_n .iload 2 34 := Or.inl ⟨2, by decide +kernel, rfl, rfl⟩
theorem d_X6_rest_34 : pm_D e_X6_rest 34 1 (.ireturn) 35 := ⟨by decide +kernel, rfl⟩
