theorem d_X9_lost_71 : pm_D e_X9_lost 71 1 (.ireturn) 72 := ⟨by decide +kernel, rfl⟩
theorem d_X9_lost_72 : pm_P e_X9_lost 72 0 73 := Or.inl ⟨0, by decide +kernel, by decide +kernel, rfl⟩
theorem d_X9_lost_73 : pm_i e_X9_lost 73 .istore_n .istore 6 75 := Or.inr ⟨by decide +kernel, rfl⟩
theorem d_X9_lost_75 : pm_P e_X9_lost 75 2000001 77 := Or.inr <| Or.inr <| Or.inr <| Or.inl ⟨249, by decide +kernel, wm_680, rfl⟩
theorem d_X9_lost_77 : pm_i e_X9_lost 77 .istore_n .istore 7 79 := Or.inr ⟨by decide +kernel, rfl⟩
theorem d_X9_lost_79 : pm_P e_X9_lost 79 0 80 := Or.inl ⟨0, by decide +kernel, by decide +kernel, rfl⟩
theorem d_X9_lost_80 : pm_i e_X9_lost 80 .istore_n .istore 8 82 := Or.inr ⟨by decide +kernel, rfl⟩
theorem d_X9_lost_82 : pm_i e_X9_lost 82 .iload_n .iload 8 84 := Or.inr ⟨by decide +kernel, rfl⟩
theorem d_X9_lost_84 : pm_P e_X9_lost 84 8 86 := Or.inr <| Or.inl ⟨8, by decide +kernel, by decide +kernel, rfl⟩
theorem d_X9_lost_86 : pm_B e_X9_lost 86 (fun z => .if_icmp .gt z) 145 89 := ⟨59, by decide +kernel, by decide, rfl⟩
theorem d_X9_lost_89 : pm_i e_X9_lost 89 .aload_n .aload 5 91 := Or.inr ⟨by decide +kernel, rfl⟩
theorem d_X9_lost_91 : pm_F e_X9_lost 91 .getfield (RX6, "bundle", "I") 94 := ⟨111, by decide +kernel, rfl, Or.inr ⟨_, wm_242⟩⟩
theorem d_X9_lost_94 : pm_i e_X9_lost 94 .iload_n .iload 8 96 := Or.inr ⟨by decide +kernel, rfl⟩
theorem d_X9_lost_96 : pm_D e_X9_lost 96 1 (.isub) 97 := ⟨by decide +kernel, rfl⟩
theorem d_X9_lost_97 : pm_P e_X9_lost 97 4 98 := Or.inl ⟨4, by decide +kernel, by decide +kernel, rfl⟩
theorem d_X9_lost_98 : pm_B e_X9_lost 98 (fun z => .if_icmp .lt z) 145 101 := ⟨47, by decide +kernel, by decide, rfl⟩
theorem d_X9_lost_101 : pm_i e_X9_lost 101 .aload_n .aload 5 103 := Or.inr ⟨by decide +kernel, rfl⟩
theorem d_X9_lost_103 : pm_i e_X9_lost 103 .aload_n .aload 5 105 := Or.inr ⟨by decide +kernel, rfl⟩
theorem d_X9_lost_105 : pm_F e_X9_lost 105 .getfield (RX6, "bundle", "I") 108 := ⟨111, by decide +kernel, rfl, Or.inr ⟨_, wm_242⟩⟩
theorem d_X9_lost_108 : pm_i e_X9_lost 108 .iload_n .iload 8 110 := Or.inr ⟨by decide +kernel, rfl⟩
theorem d_X9_lost_110 : pm_D e_X9_lost 110 1 (.isub) 111 := ⟨by decide +kernel, rfl⟩
theorem d_X9_lost_111 : pm_i e_X9_lost 111 .aload_n .aload 0 112 := Or.inl ⟨0, by decide +kernel, rfl, rfl⟩
theorem d_X9_lost_112 : pm_F e_X9_lost 112 .getfield (RX9, "odds", "LStalkRoom$Odds;") 115 := ⟨53, by decide +kernel, rfl, Or.inl wm_168⟩
theorem d_X9_lost_115_6 : pm_kV e_X9_lost 115 e_X6_weighBundle RX6 2 118 := ⟨250, by decide +kernel, rfl, fit_X9_lost_X6_weighBundle, wm_394, Or.inl ⟨wm_685, wm_395⟩⟩
theorem d_X9_lost_115_7 : pm_kV e_X9_lost 115 e_X6_weighBundle RX7 2 118 := ⟨250, by decide +kernel, rfl, fit_X9_lost_X6_weighBundle, wm_394, Or.inl ⟨wm_685, wm_397⟩⟩
theorem d_X9_lost_118 : pm_i e_X9_lost 118 .aload_n .aload 0 119 := Or.inl ⟨0, by decide +kernel, rfl, rfl⟩
theorem d_X9_lost_119 : pm_kV e_X9_lost 119 e_X9_weighedDiffer RX9 0 122 := ⟨254, by decide +kernel, rfl, fit_X9_lost_X9_weighedDiffer, wm_666, Or.inl ⟨wm_664, wm_16⟩⟩
theorem d_X9_lost_122 : pm_i e_X9_lost 122 .istore_n .istore 9 124 := Or.inr ⟨by decide +kernel, rfl⟩
theorem d_X9_lost_124 : pm_i e_X9_lost 124 .iload_n .iload 9 126 := Or.inr ⟨by decide +kernel, rfl⟩
theorem d_X9_lost_126 : pm_i e_X9_lost 126 .iload_n .iload 7 128 := Or.inr ⟨by decide +kernel, rfl⟩
theorem d_X9_lost_128 : pm_B e_X9_lost 128 (fun z => .if_icmp .ge z) 139 131 := ⟨11, by decide +kernel, by decide, rfl⟩
theorem d_X9_lost_131 : pm_i e_X9_lost 131 .iload_n .iload 9 133 := Or.inr ⟨by decide +kernel, rfl⟩
theorem d_X9_lost_133 : pm_i e_X9_lost 133 .istore_n .istore 7 135 := Or.inr ⟨by decide +kernel, rfl⟩
theorem d_X9_lost_135 : pm_i e_X9_lost 135 .iload_n .iload 8 137 := Or.inr ⟨by decide +kernel, rfl⟩
theorem d_X9_lost_137 : pm_i e_X9_lost 137 .istore_n .istore 6 139 := Or.inr ⟨by decide +kernel, rfl⟩
theorem d_X9_lost_139 : pm_I e_X9_lost 139 8 1 142 := ⟨1, by decide +kernel, by decide +kernel, rfl⟩
theorem d_X9_lost_142 : pm_B e_X9_lost 142 (fun z => .goto z) 82 145 := ⟨-60, by decide +kernel, by decide, rfl⟩
theorem d_X9_lost_145 : pm_i e_X9_lost 145 .iload_n .iload 6 147 := Or.inr ⟨by decide +kernel, rfl⟩
theorem d_X9_lost_147 : pm_D e_X9_lost 147 1 (.ireturn) 148 := ⟨by decide +kernel, rfl⟩
theorem d_X9_need_0 : pm_i e_X9_need 0 .aload_n .aload 0 1 := Or.inl ⟨0, by decide +kernel, rfl, rfl⟩
theorem d_X9_need_1 : pm_i e_X9_need 1 .iload_n .iload 1 2 := Or.inl ⟨1, by decide +kernel, rfl, rfl⟩
theorem d_X9_need_2 : pm_kV e_X9_need 2 e_X9_casterAt RX9 1 5 := ⟨103, by decide +kernel, rfl, fit_X9_need_X9_casterAt, wm_278, Or.inl ⟨wm_276, wm_1⟩⟩
theorem d_X9_need_5 : pm_i e_X9_need 5 .astore_n .astore 3 6 := Or.inl ⟨3, by decide +kernel, rfl, rfl⟩
theorem d_X9_need_6 : pm_i e_X9_need 6 .aload_n .aload 0 7 := Or.inl ⟨0, by decide +kernel, rfl, rfl⟩
theorem d_X9_need_7 : pm_i e_X9_need 7 .iload_n .iload 2 8 := Or.inl ⟨2, by decide +kernel, rfl, rfl⟩
theorem d_X9_need_8 : pm_kV e_X9_need 8 e_X9_casterAt RX9 1 11 := ⟨103, by decide +kernel, rfl, fit_X9_need_X9_casterAt, wm_278, Or.inl ⟨wm_276, wm_1⟩⟩
theorem d_X9_need_11 : pm_i e_X9_need 11 .astore_n .astore 4 13 := Or.inr ⟨by decide +kernel, rfl⟩
theorem d_X9_need_13 : pm_i e_X9_need 13 .aload_n .aload 3 14 := Or.inl ⟨3, by decide +kernel, rfl, rfl⟩
theorem d_X9_need_14 : pm_B e_X9_need 14 (fun z => .ifnull z) 22 17 := ⟨8, by decide +kernel, by decide, rfl⟩
theorem d_X9_need_17 : pm_i e_X9_need 17 .aload_n .aload 4 19 := Or.inr ⟨by decide +kernel, rfl⟩
theorem d_X9_need_19 : pm_B e_X9_need 19 (fun z => .ifnonnull z) 24 22 := ⟨5, by decide +kernel, by decide, rfl⟩
theorem d_X9_need_22 : pm_P e_X9_need 22 (-1) 23 := Or.inl ⟨-1, by decide +kernel, by decide +kernel, rfl⟩
theorem d_X9_need_23 : pm_D e_X9_need 23 1 (.ireturn) 24 := ⟨by decide +kernel, rfl⟩
theorem d_X9_need_24 : pm_i e_X9_need 24 .aload_n .aload 4 26 := Or.inr ⟨by decide +kernel, rfl⟩
theorem d_X9_need_26 : pm_i e_X9_need 26 .aload_n .aload 0 27 := Or.inl ⟨0, by decide +kernel, rfl, rfl⟩
theorem d_X9_need_27 : pm_F e_X9_need 27 .getfield (RX9, "odds", "LStalkRoom$Odds;") 30 := ⟨53, by decide +kernel, rfl, Or.inl wm_168⟩
theorem d_X9_need_30_1 : pm_kV e_X9_need 30 e_X1_weigh RX1 1 33 := ⟨135, by decide +kernel, rfl, fit_X9_need_X1_weigh, wm_375, Or.inl ⟨wm_374, wm_376⟩⟩
theorem d_X9_need_30_2 : pm_kV e_X9_need 30 e_X2_weigh RX2 1 33 := ⟨135, by decide +kernel, rfl, fit_X9_need_X2_weigh, wm_379, Or.inr (Or.inr ⟨yX1_weigh, RX1, _, _, _, wm_374, wm_377, wm_378, ⟨by decide +kernel, by decide +kernel⟩, wm_375, wm_422, by decide +kernel⟩)⟩
theorem d_X9_need_30_6 : pm_kV e_X9_need 30 e_X6_weigh RX6 1 33 := ⟨135, by decide +kernel, rfl, fit_X9_need_X6_weigh, wm_391, Or.inr (Or.inr ⟨yX1_weigh, RX1, _, _, _, wm_374, wm_377, wm_390, ⟨by decide +kernel, by decide +kernel⟩, wm_375, wm_422, by decide +kernel⟩)⟩
theorem d_X9_need_30_7 : pm_kV e_X9_need 30 e_X6_weigh RX7 1 33 := ⟨135, by decide +kernel, rfl, fit_X9_need_X6_weigh, wm_391, Or.inr (Or.inr ⟨yX1_weigh, RX1, _, _, _, wm_374, wm_377, wm_421, ⟨by decide +kernel, by decide +kernel⟩, wm_375, wm_422, by decide +kernel⟩)⟩
theorem d_X9_need_33 : pm_i e_X9_need 33 .aload_n .aload 0 34 := Or.inl ⟨0, by decide +kernel, rfl, rfl⟩
theorem d_X9_need_34 : pm_F e_X9_need 34 .getfield (RX9, "odds", "LStalkRoom$Odds;") 37 := ⟨53, by decide +kernel, rfl, Or.inl wm_168⟩
theorem d_X9_need_37 : pm_i e_X9_need 37 .aload_n .aload 0 38 := Or.inl ⟨0, by decide +kernel, rfl, rfl⟩
theorem d_X9_need_38 : pm_F e_X9_need 38 .getfield (RX9, "otherParts", "[I") 41 := ⟨61, by decide +kernel, rfl, Or.inl wm_170⟩
theorem d_X9_need_41 : pm_kV e_X9_need 41 e_X4_partsInto RX4 1 44 := ⟨257, by decide +kernel, rfl, fit_X9_need_X4_partsInto, wm_669, Or.inl ⟨wm_668, wm_670⟩⟩
theorem d_X9_need_44 : pm_i e_X9_need 44 .aload_n .aload 0 45 := Or.inl ⟨0, by decide +kernel, rfl, rfl⟩
theorem d_X9_need_45 : pm_i e_X9_need 45 .aload_n .aload 3 46 := Or.inl ⟨3, by decide +kernel, rfl, rfl⟩
theorem d_X9_need_46 : pm_kV e_X9_need 46 e_X9_offOf RX9 1 49 := ⟨246, by decide +kernel, rfl, fit_X9_need_X9_offOf, wm_661, Or.inl ⟨wm_659, wm_15⟩⟩
theorem d_X9_need_49 : pm_i e_X9_need 49 .istore_n .istore 5 51 := Or.inr ⟨by decide +kernel, rfl⟩
theorem d_X9_need_51 : pm_i e_X9_need 51 .iload_n .iload 5 53 := Or.inr ⟨by decide +kernel, rfl⟩
theorem d_X9_need_53 : pm_B e_X9_need 53 (fun z => .ifCond .gt z) 59 56 := ⟨6, by decide +kernel, by decide, rfl⟩
theorem d_X9_need_56 : pm_P e_X9_need 56 (-9) 58 := Or.inr <| Or.inl ⟨-9, by decide +kernel, by decide +kernel, rfl⟩
theorem d_X9_need_58 : pm_D e_X9_need 58 1 (.ireturn) 59 := ⟨by decide +kernel, rfl⟩
theorem d_X9_need_59 : pm_P e_X9_need 59 10000000 62 := Or.inr <| Or.inr <| Or.inr <| Or.inr ⟨260, by decide +kernel, wm_690, rfl⟩
theorem d_X9_need_62 : pm_i e_X9_need 62 .iload_n .iload 5 64 := Or.inr ⟨by decide +kernel, rfl⟩
theorem d_X9_need_64 : pm_D e_X9_need 64 1 (.iadd) 65 := ⟨by decide +kernel, rfl⟩
theorem d_X9_need_65 : pm_P e_X9_need 65 1 66 := Or.inl ⟨1, by decide +kernel, by decide +kernel, rfl⟩
theorem d_X9_need_66 : pm_D e_X9_need 66 1 (.isub) 67 := ⟨by decide +kernel, rfl⟩
theorem d_X9_need_67 : pm_i e_X9_need 67 .iload_n .iload 5 69 := Or.inr ⟨by decide +kernel, rfl⟩
theorem d_X9_need_69 : pm_D e_X9_need 69 1 (.idiv) 70 := ⟨by decide +kernel, rfl⟩
theorem d_X9_need_70 : pm_D e_X9_need 70 1 (.ireturn) 71 := ⟨by decide +kernel, rfl⟩
theorem d_X9_asked_0 : pm_i e_X9_asked 0 .aload_n .aload 0 1 := Or.inl ⟨0, by decide +kernel, rfl, rfl⟩
theorem d_X9_asked_1 : pm_F e_X9_asked 1 .getfield (RX9, "lastAsked", "J") 4 := ⟨70, by decide +kernel, rfl, Or.inl wm_173⟩
theorem d_X9_asked_4 : pm_D e_X9_asked 4 1 (.lreturn) 5 := ⟨by decide +kernel, rfl⟩
theorem d_X9_upper_0 : pm_i e_X9_upper 0 .aload_n .aload 0 1 := Or.inl ⟨0, by decide +kernel, rfl, rfl⟩
theorem d_X9_upper_1 : pm_F e_X9_upper 1 .getfield (RX9, "fractionUpper", "J") 4 := ⟨74, by decide +kernel, rfl, Or.inl wm_174⟩
theorem d_X9_upper_4 : pm_D e_X9_upper 4 1 (.lreturn) 5 := ⟨by decide +kernel, rfl⟩
theorem d_X9_lower_0 : pm_i e_X9_lower 0 .aload_n .aload 0 1 := Or.inl ⟨0, by decide +kernel, rfl, rfl⟩
theorem d_X9_lower_1 : pm_F e_X9_lower 1 .getfield (RX9, "fractionLower", "J") 4 := ⟨77, by decide +kernel, rfl, Or.inl wm_175⟩
theorem d_X9_lower_4 : pm_D e_X9_lower 4 1 (.lreturn) 5 := ⟨by decide +kernel, rfl⟩
theorem d_X9_count_0 : pm_i e_X9_count 0 .iload_n .iload 1 1 := Or.inl ⟨1, by decide +kernel, rfl, rfl⟩
theorem d_X9_count_1 : pm_T e_X9_count 1 0 2 43 [28, 33, 38] := ⟨42, #[27, 32, 37], 27, by decide +kernel, by decide, by decide⟩
theorem d_X9_count_28 : pm_i e_X9_count 28 .aload_n .aload 0 29 := Or.inl ⟨0, by decide +kernel, rfl, rfl⟩
theorem d_X9_count_29 : pm_F e_X9_count 29 .getfield (RX9, "casterCount", "I") 32 := ⟨15, by decide +kernel, rfl, Or.inl wm_162⟩
theorem d_X9_count_32 : pm_D e_X9_count 32 1 (.ireturn) 33 := ⟨by decide +kernel, rfl⟩
theorem d_X9_count_33 : pm_i e_X9_count 33 .aload_n .aload 0 34 := Or.inl ⟨0, by decide +kernel, rfl, rfl⟩
theorem d_X9_count_34 : pm_kV e_X9_count 34 e_X9_rowsThere RX9 0 37 := ⟨261, by decide +kernel, rfl, fit_X9_count_X9_rowsThere, wm_709, Or.inl ⟨wm_707, wm_17⟩⟩
theorem d_X9_count_37 : pm_D e_X9_count 37 1 (.ireturn) 38 := ⟨by decide +kernel, rfl⟩
theorem d_X9_count_38 : pm_i e_X9_count 38 .aload_n .aload 0 39 := Or.inl ⟨0, by decide +kernel, rfl, rfl⟩
theorem d_X9_count_39 : pm_kV e_X9_count 39 e_X9_oldLinesOfAll RX9 0 42 := ⟨264, by decide +kernel, rfl, fit_X9_count_X9_oldLinesOfAll, wm_713, Or.inl ⟨wm_711, wm_18⟩⟩
theorem d_X9_count_42 : pm_D e_X9_count 42 1 (.ireturn) 43 := ⟨by decide +kernel, rfl⟩
theorem d_X9_count_43 : pm_P e_X9_count 43 (-1) 44 := Or.inl ⟨-1, by decide +kernel, by decide +kernel, rfl⟩
theorem d_X9_count_44 : pm_D e_X9_count 44 1 (.ireturn) 45 := ⟨by decide +kernel, rfl⟩
theorem d_X9_finding_0 : pm_i e_X9_finding 0 .aload_n .aload 0 1 := Or.inl ⟨0, by decide +kernel, rfl, rfl⟩
theorem d_X9_finding_1 : pm_F e_X9_finding 1 .getfield (RX9, "latestFinding", "I") 4 := ⟨67, by decide +kernel, rfl, Or.inl wm_172⟩
theorem d_X9_finding_4 : pm_D e_X9_finding 4 1 (.ireturn) 5 := ⟨by decide +kernel, rfl⟩
theorem d_X9_findings_0 : pm_i e_X9_findings 0 .iload_n .iload 1 1 := Or.inl ⟨1, by decide +kernel, rfl, rfl⟩
theorem d_X9_findings_1 : pm_P e_X9_findings 1 1 2 := Or.inl ⟨1, by decide +kernel, by decide +kernel, rfl⟩
theorem d_X9_findings_2 : pm_B e_X9_findings 2 (fun z => .if_icmp .lt z) 10 5 := ⟨8, by decide +kernel, by decide, rfl⟩
theorem d_X9_findings_5 : pm_i e_X9_findings 5 .iload_n .iload 1 6 := Or.inl ⟨1, by decide +kernel, rfl, rfl⟩
theorem d_X9_findings_6 : pm_P e_X9_findings 6 5 7 := Or.inl ⟨5, by decide +kernel, by decide +kernel, rfl⟩
theorem d_X9_findings_7 : pm_B e_X9_findings 7 (fun z => .if_icmp .le z) 14 10 := ⟨7, by decide +kernel, by decide, rfl⟩
theorem d_X9_findings_10 : pm_P e_X9_findings 10 (-1) 11 := Or.inl ⟨-1, by decide +kernel, by decide +kernel, rfl⟩
theorem d_X9_findings_11 : pm_B e_X9_findings 11 (fun z => .goto z) 20 14 := ⟨9, by decide +kernel, by decide, rfl⟩
theorem d_X9_findings_14 : pm_i e_X9_findings 14 .aload_n .aload 0 15 := Or.inl ⟨0, by decide +kernel, rfl, rfl⟩
theorem d_X9_findings_15 : pm_F e_X9_findings 15 .getfield (RX9, "findingTimes", "[I") 18 := ⟨64, by decide +kernel, rfl, Or.inl wm_171⟩
theorem d_X9_findings_18 : pm_i e_X9_findings 18 .iload_n .iload 1 19 := Or.inl ⟨1, by decide +kernel, rfl, rfl⟩
theorem d_X9_findings_19 : pm_D e_X9_findings 19 1 (.iaload) 20 := ⟨by decide +kernel, rfl⟩
theorem d_X9_findings_20 : pm_D e_X9_findings 20 1 (.ireturn) 21 := ⟨by decide +kernel, rfl⟩
theorem d_X9_digest_0 : pm_PL e_X9_digest 0 17 3 := Or.inr ⟨267, by decide +kernel, wm_727, rfl⟩
theorem d_X9_digest_3 : pm_i e_X9_digest 3 .lstore_n .lstore 1 4 := Or.inl ⟨1, by decide +kernel, rfl, rfl⟩
theorem d_X9_digest_4 : pm_P e_X9_digest 4 0 5 := Or.inl ⟨0, by decide +kernel, by decide +kernel, rfl⟩
theorem d_X9_digest_5 : pm_i e_X9_digest 5 .istore_n .istore 3 6 := Or.inl ⟨3, by decide +kernel, rfl, rfl⟩
theorem d_X9_digest_6 : pm_i e_X9_digest 6 .iload_n .iload 3 7 := Or.inl ⟨3, by decide +kernel, rfl, rfl⟩
theorem d_X9_digest_7 : pm_i e_X9_digest 7 .aload_n .aload 0 8 := Or.inl ⟨0, by decide +kernel, rfl, rfl⟩
theorem d_X9_digest_8 : pm_F e_X9_digest 8 .getfield (RX9, "casterCount", "I") 11 := ⟨15, by decide +kernel, rfl, Or.inl wm_162⟩
theorem d_X9_digest_11 : pm_B e_X9_digest 11 (fun z => .if_icmp .ge z) 50 14 := ⟨39, by decide +kernel, by decide, rfl⟩
theorem d_X9_digest_14 : pm_P e_X9_digest 14 0 15 := Or.inl ⟨0, by decide +kernel, by decide +kernel, rfl⟩
theorem d_X9_digest_15 : pm_i e_X9_digest 15 .istore_n .istore 4 17 := Or.inr ⟨by decide +kernel, rfl⟩
theorem d_X9_digest_17 : pm_i e_X9_digest 17 .iload_n .iload 4 19 := Or.inr ⟨by decide +kernel, rfl⟩
theorem d_X9_digest_19 : pm_P e_X9_digest 19 3 20 := Or.inl ⟨3, by decide +kernel, by decide +kernel, rfl⟩
theorem d_X9_digest_20 : pm_B e_X9_digest 20 (fun z => .if_icmp .gt z) 44 23 := ⟨24, by decide +kernel, by decide, rfl⟩
theorem d_X9_digest_23 : pm_PL e_X9_digest 23 31 26 := Or.inr ⟨269, by decide +kernel, wm_728, rfl⟩
theorem d_X9_digest_26 : pm_i e_X9_digest 26 .lload_n .lload 1 27 := Or.inl ⟨1, by decide +kernel, rfl, rfl⟩
theorem d_X9_digest_27 : pm_D e_X9_digest 27 1 (.lmul) 28 := ⟨by decide +kernel, rfl⟩
theorem d_X9_digest_28 : pm_i e_X9_digest 28 .aload_n .aload 0 29 := Or.inl ⟨0, by decide +kernel, rfl, rfl⟩
theorem d_X9_digest_29 : pm_i e_X9_digest 29 .iload_n .iload 3 30 := Or.inl ⟨3, by decide +kernel, rfl, rfl⟩
theorem d_X9_digest_30 : pm_i e_X9_digest 30 .iload_n .iload 4 32 := Or.inr ⟨by decide +kernel, rfl⟩
theorem d_X9_digest_32 : pm_kV e_X9_digest 32 e_X9_told RX9 2 35 := ⟨271, by decide +kernel, rfl, fit_X9_digest_X9_told, wm_273, Or.inl ⟨wm_729, wm_274⟩⟩
theorem d_X9_digest_35 : pm_D e_X9_digest 35 1 (.i2l) 36 := ⟨by decide +kernel, rfl⟩
theorem d_X9_digest_36 : pm_D e_X9_digest 36 1 (.ladd) 37 := ⟨by decide +kernel, rfl⟩
theorem d_X9_digest_37 : pm_i e_X9_digest 37 .lstore_n .lstore 1 38 := Or.inl ⟨1, by decide +kernel, rfl, rfl⟩
theorem d_X9_digest_38 : pm_I e_X9_digest 38 4 1 41 := ⟨1, by decide +kernel, by decide +kernel, rfl⟩
theorem d_X9_digest_41 : pm_B e_X9_digest 41 (fun z => .goto z) 17 44 := ⟨-24, by decide +kernel, by decide, rfl⟩
theorem d_X9_digest_44 : pm_I e_X9_digest 44 3 1 47 := ⟨1, by decide +kernel, by decide +kernel, rfl⟩
theorem d_X9_digest_47 : pm_B e_X9_digest 47 (fun z => .goto z) 6 50 := ⟨-41, by decide +kernel, by decide, rfl⟩
theorem d_X9_digest_50 : pm_P e_X9_digest 50 0 51 := Or.inl ⟨0, by decide +kernel, by decide +kernel, rfl⟩
theorem d_X9_digest_51 : pm_i e_X9_digest 51 .istore_n .istore 3 52 := Or.inl ⟨3, by decide +kernel, rfl, rfl⟩
theorem d_X9_digest_52 : pm_i e_X9_digest 52 .iload_n .iload 3 53 := Or.inl ⟨3, by decide +kernel, rfl, rfl⟩
theorem d_X9_digest_53 : pm_P e_X9_digest 53 8 55 := Or.inr <| Or.inl ⟨8, by decide +kernel, by decide +kernel, rfl⟩
theorem d_X9_digest_55 : pm_B e_X9_digest 55 (fun z => .if_icmp .ge z) 100 58 := ⟨45, by decide +kernel, by decide, rfl⟩
theorem d_X9_digest_58 : pm_P e_X9_digest 58 0 59 := Or.inl ⟨0, by decide +kernel, by decide +kernel, rfl⟩
theorem d_X9_digest_59 : pm_i e_X9_digest 59 .istore_n .istore 4 61 := Or.inr ⟨by decide +kernel, rfl⟩
theorem d_X9_digest_61 : pm_i e_X9_digest 61 .iload_n .iload 4 63 := Or.inr ⟨by decide +kernel, rfl⟩
theorem d_X9_digest_63 : pm_P e_X9_digest 63 6 65 := Or.inr <| Or.inl ⟨6, by decide +kernel, by decide +kernel, rfl⟩
theorem d_X9_digest_65 : pm_B e_X9_digest 65 (fun z => .if_icmp .ge z) 94 68 := ⟨29, by decide +kernel, by decide, rfl⟩
theorem d_X9_digest_68 : pm_PL e_X9_digest 68 31 71 := Or.inr ⟨269, by decide +kernel, wm_728, rfl⟩
theorem d_X9_digest_71 : pm_i e_X9_digest 71 .lload_n .lload 1 72 := Or.inl ⟨1, by decide +kernel, rfl, rfl⟩
theorem d_X9_digest_72 : pm_D e_X9_digest 72 1 (.lmul) 73 := ⟨by decide +kernel, rfl⟩
theorem d_X9_digest_73 : pm_i e_X9_digest 73 .aload_n .aload 0 74 := Or.inl ⟨0, by decide +kernel, rfl, rfl⟩
theorem d_X9_digest_74 : pm_F e_X9_digest 74 .getfield (RX9, "figures", "[LStalkRoom$Figure;") 77 := ⟨21, by decide +kernel, rfl, Or.inl wm_163⟩
theorem d_X9_digest_77 : pm_i e_X9_digest 77 .iload_n .iload 3 78 := Or.inl ⟨3, by decide +kernel, rfl, rfl⟩
theorem d_X9_digest_78 : pm_D e_X9_digest 78 1 (.aaload) 79 := ⟨by decide +kernel, rfl⟩
theorem d_X9_digest_79 : pm_F e_X9_digest 79 .getfield (RX3, "lines", "[I") 82 := ⟨162, by decide +kernel, rfl, Or.inr ⟨_, wm_79⟩⟩
theorem d_X9_digest_82 : pm_i e_X9_digest 82 .iload_n .iload 4 84 := Or.inr ⟨by decide +kernel, rfl⟩
theorem d_X9_digest_84 : pm_D e_X9_digest 84 1 (.iaload) 85 := ⟨by decide +kernel, rfl⟩
theorem d_X9_digest_85 : pm_D e_X9_digest 85 1 (.i2l) 86 := ⟨by decide +kernel, rfl⟩
theorem d_X9_digest_86 : pm_D e_X9_digest 86 1 (.ladd) 87 := ⟨by decide +kernel, rfl⟩
theorem d_X9_digest_87 : pm_i e_X9_digest 87 .lstore_n .lstore 1 88 := Or.inl ⟨1, by decide +kernel, rfl, rfl⟩
theorem d_X9_digest_88 : pm_I e_X9_digest 88 4 1 91 := ⟨1, by decide +kernel, by decide +kernel, rfl⟩
theorem d_X9_digest_91 : pm_B e_X9_digest 91 (fun z => .goto z) 61 94 := ⟨-30, by decide +kernel, by decide, rfl⟩
theorem d_X9_digest_94 : pm_I e_X9_digest 94 3 1 97 := ⟨1, by decide +kernel, by decide +kernel, rfl⟩
theorem d_X9_digest_97 : pm_B e_X9_digest 97 (fun z => .goto z) 52 100 := ⟨-45, by decide +kernel, by decide, rfl⟩
theorem d_X9_digest_100 : pm_P e_X9_digest 100 0 101 := Or.inl ⟨0, by decide +kernel, by decide +kernel, rfl⟩
theorem d_X9_digest_101 : pm_i e_X9_digest 101 .istore_n .istore 3 102 := Or.inl ⟨3, by decide +kernel, rfl, rfl⟩
theorem d_X9_digest_102 : pm_i e_X9_digest 102 .iload_n .iload 3 103 := Or.inl ⟨3, by decide +kernel, rfl, rfl⟩
theorem d_X9_digest_103 : pm_P e_X9_digest 103 4 104 := Or.inl ⟨4, by decide +kernel, by decide +kernel, rfl⟩
theorem d_X9_digest_104 : pm_B e_X9_digest 104 (fun z => .if_icmp .ge z) 173 107 := ⟨69, by decide +kernel, by decide, rfl⟩
theorem d_X9_digest_107 : pm_PL e_X9_digest 107 31 110 := Or.inr ⟨269, by decide +kernel, wm_728, rfl⟩
theorem d_X9_digest_110 : pm_i e_X9_digest 110 .lload_n .lload 1 111 := Or.inl ⟨1, by decide +kernel, rfl, rfl⟩
theorem d_X9_digest_111 : pm_D e_X9_digest 111 1 (.lmul) 112 := ⟨by decide +kernel, rfl⟩
theorem d_X9_digest_112 : pm_i e_X9_digest 112 .aload_n .aload 0 113 := Or.inl ⟨0, by decide +kernel, rfl, rfl⟩
theorem d_X9_digest_113 : pm_F e_X9_digest 113 .getfield (RX9, "rows", "[LStalkRoom$ByteRow;") 116 := ⟨32, by decide +kernel, rfl, Or.inl wm_165⟩
theorem d_X9_digest_116 : pm_i e_X9_digest 116 .iload_n .iload 3 117 := Or.inl ⟨3, by decide +kernel, rfl, rfl⟩
theorem d_X9_digest_117 : pm_D e_X9_digest 117 1 (.aaload) 118 := ⟨by decide +kernel, rfl⟩
theorem d_X9_digest_118 : pm_F e_X9_digest 118 .getfield (RX0, "size", "I") 121 := ⟨205, by decide +kernel, rfl, Or.inr ⟨_, wm_154⟩⟩
theorem d_X9_digest_121 : pm_D e_X9_digest 121 1 (.i2l) 122 := ⟨by decide +kernel, rfl⟩
theorem d_X9_digest_122 : pm_D e_X9_digest 122 1 (.ladd) 123 := ⟨by decide +kernel, rfl⟩
theorem d_X9_digest_123 : pm_i e_X9_digest 123 .lstore_n .lstore 1 124 := Or.inl ⟨1, by decide +kernel, rfl, rfl⟩
theorem d_X9_digest_124 : pm_P e_X9_digest 124 0 125 := Or.inl ⟨0, by decide +kernel, by decide +kernel, rfl⟩
theorem d_X9_digest_125 : pm_i e_X9_digest 125 .istore_n .istore 4 127 := Or.inr ⟨by decide +kernel, rfl⟩
theorem d_X9_digest_127 : pm_i e_X9_digest 127 .iload_n .iload 4 129 := Or.inr ⟨by decide +kernel, rfl⟩
theorem d_X9_digest_129 : pm_i e_X9_digest 129 .aload_n .aload 0 130 := Or.inl ⟨0, by decide +kernel, rfl, rfl⟩
theorem d_X9_digest_130 : pm_F e_X9_digest 130 .getfield (RX9, "rows", "[LStalkRoom$ByteRow;") 133 := ⟨32, by decide +kernel, rfl, Or.inl wm_165⟩
theorem d_X9_digest_133 : pm_i e_X9_digest 133 .iload_n .iload 3 134 := Or.inl ⟨3, by decide +kernel, rfl, rfl⟩
theorem d_X9_digest_134 : pm_D e_X9_digest 134 1 (.aaload) 135 := ⟨by decide +kernel, rfl⟩
theorem d_X9_digest_135 : pm_F e_X9_digest 135 .getfield (RX0, "size", "I") 138 := ⟨205, by decide +kernel, rfl, Or.inr ⟨_, wm_154⟩⟩
theorem d_X9_digest_138 : pm_B e_X9_digest 138 (fun z => .if_icmp .ge z) 167 141 := ⟨29, by decide +kernel, by decide, rfl⟩
theorem d_X9_digest_141 : pm_PL e_X9_digest 141 31 144 := Or.inr ⟨269, by decide +kernel, wm_728, rfl⟩
theorem d_X9_digest_144 : pm_i e_X9_digest 144 .lload_n .lload 1 145 := Or.inl ⟨1, by decide +kernel, rfl, rfl⟩
theorem d_X9_digest_145 : pm_D e_X9_digest 145 1 (.lmul) 146 := ⟨by decide +kernel, rfl⟩
theorem d_X9_digest_146 : pm_i e_X9_digest 146 .aload_n .aload 0 147 := Or.inl ⟨0, by decide +kernel, rfl, rfl⟩
theorem d_X9_digest_147 : pm_F e_X9_digest 147 .getfield (RX9, "rows", "[LStalkRoom$ByteRow;") 150 := ⟨32, by decide +kernel, rfl, Or.inl wm_165⟩
theorem d_X9_digest_150 : pm_i e_X9_digest 150 .iload_n .iload 3 151 := Or.inl ⟨3, by decide +kernel, rfl, rfl⟩
theorem d_X9_digest_151 : pm_D e_X9_digest 151 1 (.aaload) 152 := ⟨by decide +kernel, rfl⟩
theorem d_X9_digest_152 : pm_F e_X9_digest 152 .getfield (RX0, "bytes", "[B") 155 := ⟨208, by decide +kernel, rfl, Or.inr ⟨_, wm_152⟩⟩
theorem d_X9_digest_155 : pm_i e_X9_digest 155 .iload_n .iload 4 157 := Or.inr ⟨by decide +kernel, rfl⟩
theorem d_X9_digest_157 : pm_D e_X9_digest 157 1 (.baload) 158 := ⟨by decide +kernel, rfl⟩
theorem d_X9_digest_158 : pm_D e_X9_digest 158 1 (.i2l) 159 := ⟨by decide +kernel, rfl⟩
theorem d_X9_digest_159 : pm_D e_X9_digest 159 1 (.ladd) 160 := ⟨by decide +kernel, rfl⟩
theorem d_X9_digest_160 : pm_i e_X9_digest 160 .lstore_n .lstore 1 161 := Or.inl ⟨1, by decide +kernel, rfl, rfl⟩
theorem d_X9_digest_161 : pm_I e_X9_digest 161 4 1 164 := ⟨1, by decide +kernel, by decide +kernel, rfl⟩
theorem d_X9_digest_164 : pm_B e_X9_digest 164 (fun z => .goto z) 127 167 := ⟨-37, by decide +kernel, by decide, rfl⟩
theorem d_X9_digest_167 : pm_I e_X9_digest 167 3 1 170 := ⟨1, by decide +kernel, by decide +kernel, rfl⟩
theorem d_X9_digest_170 : pm_B e_X9_digest 170 (fun z => .goto z) 102 173 := ⟨-68, by decide +kernel, by decide, rfl⟩
theorem d_X9_digest_173 : pm_i e_X9_digest 173 .lload_n .lload 1 174 := Or.inl ⟨1, by decide +kernel, rfl, rfl⟩
theorem d_X9_digest_174 : pm_D e_X9_digest 174 1 (.lreturn) 175 := ⟨by decide +kernel, rfl⟩
theorem d_X9_found_0 : pm_i e_X9_found 0 .aload_n .aload 0 1 := Or.inl ⟨0, by decide +kernel, rfl, rfl⟩
theorem d_X9_found_1 : pm_i e_X9_found 1 .iload_n .iload 1 2 := Or.inl ⟨1, by decide +kernel, rfl, rfl⟩
theorem d_X9_found_2 : pm_F e_X9_found 2 .putfield (RX9, "latestFinding", "I") 5 := ⟨67, by decide +kernel, rfl, Or.inl wm_172⟩
theorem d_X9_found_5 : pm_i e_X9_found 5 .aload_n .aload 0 6 := Or.inl ⟨0, by decide +kernel, rfl, rfl⟩
theorem d_X9_found_6 : pm_F e_X9_found 6 .getfield (RX9, "findingTimes", "[I") 9 := ⟨64, by decide +kernel, rfl, Or.inl wm_171⟩
theorem d_X9_found_9 : pm_i e_X9_found 9 .iload_n .iload 1 10 := Or.inl ⟨1, by decide +kernel, rfl, rfl⟩
theorem d_X9_found_10 : pm_D e_X9_found 10 1 (.dup2) 11 := ⟨by decide +kernel, rfl⟩
theorem d_X9_found_11 : pm_D e_X9_found 11 1 (.iaload) 12 := ⟨by decide +kernel, rfl⟩
theorem d_X9_found_12 : pm_P e_X9_found 12 1 13 := Or.inl ⟨1, by decide +kernel, by decide +kernel, rfl⟩
theorem d_X9_found_13 : pm_D e_X9_found 13 1 (.iadd) 14 := ⟨by decide +kernel, rfl⟩
theorem d_X9_found_14 : pm_D e_X9_found 14 1 (.iastore) 15 := ⟨by decide +kernel, rfl⟩
theorem d_X9_found_15 : pm_P e_X9_found 15 (-3) 17 := Or.inr <| Or.inl ⟨-3, by decide +kernel, by decide +kernel, rfl⟩
theorem d_X9_found_17 : pm_D e_X9_found 17 1 (.ireturn) 18 := ⟨by decide +kernel, rfl⟩
theorem d_X9_keep_0 : pm_i e_X9_keep 0 .aload_n .aload 0 1 := Or.inl ⟨0, by decide +kernel, rfl, rfl⟩
theorem d_X9_keep_1 : pm_F e_X9_keep 1 .getfield (RX9, "casterCount", "I") 4 := ⟨15, by decide +kernel, rfl, Or.inl wm_162⟩
theorem d_X9_keep_4 : pm_i e_X9_keep 4 .istore_n .istore 2 5 := Or.inl ⟨2, by decide +kernel, rfl, rfl⟩
theorem d_X9_keep_5 : pm_i e_X9_keep 5 .aload_n .aload 0 6 := Or.inl ⟨0, by decide +kernel, rfl, rfl⟩
theorem d_X9_keep_6 : pm_F e_X9_keep 6 .getfield (RX9, "casters", "[LStalkRoom$Caster;") 9 := ⟨11, by decide +kernel, rfl, Or.inl wm_161⟩
theorem d_X9_keep_9 : pm_i e_X9_keep 9 .iload_n .iload 2 10 := Or.inl ⟨2, by decide +kernel, rfl, rfl⟩
theorem d_X9_keep_10 : pm_i e_X9_keep 10 .aload_n .aload 1 11 := Or.inl ⟨1, by decide +kernel, rfl, rfl⟩
theorem d_X9_keep_11 : pm_D e_X9_keep 11 1 (.aastore) 12 := ⟨by decide +kernel, rfl⟩
theorem d_X9_keep_12 : pm_i e_X9_keep 12 .aload_n .aload 0 13 := Or.inl ⟨0, by decide +kernel, rfl, rfl⟩
theorem d_X9_keep_13 : pm_i e_X9_keep 13 .iload_n .iload 2 14 := Or.inl ⟨2, by decide +kernel, rfl, rfl⟩
theorem d_X9_keep_14 : pm_P e_X9_keep 14 1 15 := Or.inl ⟨1, by decide +kernel, by decide +kernel, rfl⟩
theorem d_X9_keep_15 : pm_D e_X9_keep 15 1 (.iadd) 16 := ⟨by decide +kernel, rfl⟩
theorem d_X9_keep_16 : pm_F e_X9_keep 16 .putfield (RX9, "casterCount", "I") 19 := ⟨15, by decide +kernel, rfl, Or.inl wm_162⟩
theorem d_X9_keep_19 : pm_i e_X9_keep 19 .iload_n .iload 2 20 := Or.inl ⟨2, by decide +kernel, rfl, rfl⟩
theorem d_X9_keep_20 : pm_D e_X9_keep 20 1 (.ireturn) 21 := ⟨by decide +kernel, rfl⟩
theorem d_X9_casterAt_0 : pm_i e_X9_casterAt 0 .iload_n .iload 1 1 := Or.inl ⟨1, by decide +kernel, rfl, rfl⟩
theorem d_X9_casterAt_1 : pm_B e_X9_casterAt 1 (fun z => .ifCond .lt z) 12 4 := ⟨11, by decide +kernel, by decide, rfl⟩
theorem d_X9_casterAt_4 : pm_i e_X9_casterAt 4 .iload_n .iload 1 5 := Or.inl ⟨1, by decide +kernel, rfl, rfl⟩
theorem d_X9_casterAt_5 : pm_i e_X9_casterAt 5 .aload_n .aload 0 6 := Or.inl ⟨0, by decide +kernel, rfl, rfl⟩
theorem d_X9_casterAt_6 : pm_F e_X9_casterAt 6 .getfield (RX9, "casterCount", "I") 9 := ⟨15, by decide +kernel, rfl, Or.inl wm_162⟩
theorem d_X9_casterAt_9 : pm_B e_X9_casterAt 9 (fun z => .if_icmp .lt z) 16 12 := ⟨7, by decide +kernel, by decide, rfl⟩
theorem d_X9_casterAt_12 : pm_D e_X9_casterAt 12 1 (.aconst_null) 13 := ⟨by decide +kernel, rfl⟩
theorem d_X9_casterAt_13 : pm_B e_X9_casterAt 13 (fun z => .goto z) 22 16 := ⟨9, by decide +kernel, by decide, rfl⟩
theorem d_X9_casterAt_16 : pm_i e_X9_casterAt 16 .aload_n .aload 0 17 := Or.inl ⟨0, by decide +kernel, rfl, rfl⟩
theorem d_X9_casterAt_17 : pm_F e_X9_casterAt 17 .getfield (RX9, "casters", "[LStalkRoom$Caster;") 20 := ⟨11, by decide +kernel, rfl, Or.inl wm_161⟩
theorem d_X9_casterAt_20 : pm_i e_X9_casterAt 20 .iload_n .iload 1 21 := Or.inl ⟨1, by decide +kernel, rfl, rfl⟩
theorem d_X9_casterAt_21 : pm_D e_X9_casterAt 21 1 (.aaload) 22 := ⟨by decide +kernel, rfl⟩
theorem d_X9_casterAt_22 : pm_D e_X9_casterAt 22 1 (.areturn) 23 := ⟨by decide +kernel, rfl⟩
theorem d_X9_figureAt_0 : pm_i e_X9_figureAt 0 .iload_n .iload 1 1 := Or.inl ⟨1, by decide +kernel, rfl, rfl⟩
theorem d_X9_figureAt_1 : pm_B e_X9_figureAt 1 (fun z => .ifCond .lt z) 10 4 := ⟨9, by decide +kernel, by decide, rfl⟩
theorem d_X9_figureAt_4 : pm_i e_X9_figureAt 4 .iload_n .iload 1 5 := Or.inl ⟨1, by decide +kernel, rfl, rfl⟩
theorem d_X9_figureAt_5 : pm_P e_X9_figureAt 5 8 7 := Or.inr <| Or.inl ⟨8, by decide +kernel, by decide +kernel, rfl⟩
theorem d_X9_figureAt_7 : pm_B e_X9_figureAt 7 (fun z => .if_icmp .lt z) 14 10 := ⟨7, by decide +kernel, by decide, rfl⟩
theorem d_X9_figureAt_10 : pm_D e_X9_figureAt 10 1 (.aconst_null) 11 := ⟨by decide +kernel, rfl⟩
theorem d_X9_figureAt_11 : pm_B e_X9_figureAt 11 (fun z => .goto z) 20 14 := ⟨9, by decide +kernel, by decide, rfl⟩
theorem d_X9_figureAt_14 : pm_i e_X9_figureAt 14 .aload_n .aload 0 15 := Or.inl ⟨0, by decide +kernel, rfl, rfl⟩
theorem d_X9_figureAt_15 : pm_F e_X9_figureAt 15 .getfield (RX9, "figures", "[LStalkRoom$Figure;") 18 := ⟨21, by decide +kernel, rfl, Or.inl wm_163⟩
theorem d_X9_figureAt_18 : pm_i e_X9_figureAt 18 .iload_n .iload 1 19 := Or.inl ⟨1, by decide +kernel, rfl, rfl⟩
theorem d_X9_figureAt_19 : pm_D e_X9_figureAt 19 1 (.aaload) 20 := ⟨by decide +kernel, rfl⟩
theorem d_X9_figureAt_20 : pm_D e_X9_figureAt 20 1 (.areturn) 21 := ⟨by decide +kernel, rfl⟩
theorem d_X9_rowAt_0 : pm_i e_X9_rowAt 0 .iload_n .iload 1 1 := Or.inl ⟨1, by decide +kernel, rfl, rfl⟩
theorem d_X9_rowAt_1 : pm_B e_X9_rowAt 1 (fun z => .ifCond .lt z) 9 4 := ⟨8, by decide +kernel, by decide, rfl⟩
theorem d_X9_rowAt_4 : pm_i e_X9_rowAt 4 .iload_n .iload 1 5 := Or.inl ⟨1, by decide +kernel, rfl, rfl⟩
theorem d_X9_rowAt_5 : pm_P e_X9_rowAt 5 4 6 := Or.inl ⟨4, by decide +kernel, by decide +kernel, rfl⟩
theorem d_X9_rowAt_6 : pm_B e_X9_rowAt 6 (fun z => .if_icmp .lt z) 13 9 := ⟨7, by decide +kernel, by decide, rfl⟩
theorem d_X9_rowAt_9 : pm_D e_X9_rowAt 9 1 (.aconst_null) 10 := ⟨by decide +kernel, rfl⟩
theorem d_X9_rowAt_10 : pm_B e_X9_rowAt 10 (fun z => .goto z) 19 13 := ⟨9, by decide +kernel, by decide, rfl⟩
theorem d_X9_rowAt_13 : pm_i e_X9_rowAt 13 .aload_n .aload 0 14 := Or.inl ⟨0, by decide +kernel, rfl, rfl⟩
theorem d_X9_rowAt_14 : pm_F e_X9_rowAt 14 .getfield (RX9, "rows", "[LStalkRoom$ByteRow;") 17 := ⟨32, by decide +kernel, rfl, Or.inl wm_165⟩
theorem d_X9_rowAt_17 : pm_i e_X9_rowAt 17 .iload_n .iload 1 18 := Or.inl ⟨1, by decide +kernel, rfl, rfl⟩
theorem d_X9_rowAt_18 : pm_D e_X9_rowAt 18 1 (.aaload) 19 := ⟨by decide +kernel, rfl⟩
theorem d_X9_rowAt_19 : pm_D e_X9_rowAt 19 1 (.areturn) 20 := ⟨by decide +kernel, rfl⟩
theorem d_X9_rowsThere_0 : pm_P e_X9_rowsThere 0 0 1 := Or.inl ⟨0, by decide +kernel, by decide +kernel, rfl⟩
theorem d_X9_rowsThere_1 : pm_i e_X9_rowsThere 1 .istore_n .istore 1 2 := Or.inl ⟨1, by decide +kernel, rfl, rfl⟩
theorem d_X9_rowsThere_2 : pm_P e_X9_rowsThere 2 0 3 := Or.inl ⟨0, by decide +kernel, by decide +kernel, rfl⟩
theorem d_X9_rowsThere_3 : pm_i e_X9_rowsThere 3 .istore_n .istore 2 4 := Or.inl ⟨2, by decide +kernel, rfl, rfl⟩
theorem d_X9_rowsThere_4 : pm_i e_X9_rowsThere 4 .iload_n .iload 2 5 := Or.inl ⟨2, by decide +kernel, rfl, rfl⟩
theorem d_X9_rowsThere_5 : pm_P e_X9_rowsThere 5 4 6 := Or.inl ⟨4, by decide +kernel, by decide +kernel, rfl⟩
theorem d_X9_rowsThere_6 : pm_B e_X9_rowsThere 6 (fun z => .if_icmp .ge z) 30 9 := ⟨24, by decide +kernel, by decide, rfl⟩
theorem d_X9_rowsThere_9 : pm_i e_X9_rowsThere 9 .aload_n .aload 0 10 := Or.inl ⟨0, by decide +kernel, rfl, rfl⟩
theorem d_X9_rowsThere_10 : pm_F e_X9_rowsThere 10 .getfield (RX9, "rows", "[LStalkRoom$ByteRow;") 13 := ⟨32, by decide +kernel, rfl, Or.inl wm_165⟩
theorem d_X9_rowsThere_13 : pm_i e_X9_rowsThere 13 .iload_n .iload 2 14 := Or.inl ⟨2, by decide +kernel, rfl, rfl⟩
theorem d_X9_rowsThere_14 : pm_D e_X9_rowsThere 14 1 (.aaload) 15 := ⟨by decide +kernel, rfl⟩
theorem d_X9_rowsThere_15 : pm_kV e_X9_rowsThere 15 e_X0_isThere RX0 0 18 := ⟨201, by decide +kernel, rfl, fit_X9_rowsThere_X0_isThere, wm_571, Or.inl ⟨wm_570, wm_572⟩⟩
theorem d_X9_rowsThere_18 : pm_B e_X9_rowsThere 18 (fun z => .ifCond .eq z) 24 21 := ⟨6, by decide +kernel, by decide, rfl⟩
theorem d_X9_rowsThere_21 : pm_I e_X9_rowsThere 21 1 1 24 := ⟨1, by decide +kernel, by decide +kernel, rfl⟩
theorem d_X9_rowsThere_24 : pm_I e_X9_rowsThere 24 2 1 27 := ⟨1, by decide +kernel, by decide +kernel, rfl⟩
theorem d_X9_rowsThere_27 : pm_B e_X9_rowsThere 27 (fun z => .goto z) 4 30 := ⟨-23, by decide +kernel, by decide, rfl⟩
theorem d_X9_rowsThere_30 : pm_i e_X9_rowsThere 30 .iload_n .iload 1 31 := Or.inl ⟨1, by decide +kernel, rfl, rfl⟩
theorem d_X9_rowsThere_31 : pm_D e_X9_rowsThere 31 1 (.ireturn) 32 := ⟨by decide +kernel, rfl⟩
theorem d_X9_oldLinesOfAll_0 : pm_P e_X9_oldLinesOfAll 0 0 1 := Or.inl ⟨0, by decide +kernel, by decide +kernel, rfl⟩
theorem d_X9_oldLinesOfAll_1 : pm_i e_X9_oldLinesOfAll 1 .istore_n .istore 1 2 := Or.inl ⟨1, by decide +kernel, rfl, rfl⟩
theorem d_X9_oldLinesOfAll_2 : pm_P e_X9_oldLinesOfAll 2 0 3 := Or.inl ⟨0, by decide +kernel, by decide +kernel, rfl⟩
theorem d_X9_oldLinesOfAll_3 : pm_i e_X9_oldLinesOfAll 3 .istore_n .istore 2 4 := Or.inl ⟨2, by decide +kernel, rfl, rfl⟩
theorem d_X9_oldLinesOfAll_4 : pm_i e_X9_oldLinesOfAll 4 .iload_n .iload 2 5 := Or.inl ⟨2, by decide +kernel, rfl, rfl⟩
theorem d_X9_oldLinesOfAll_5 : pm_P e_X9_oldLinesOfAll 5 8 7 := Or.inr <| Or.inl ⟨8, by decide +kernel, by decide +kernel, rfl⟩
theorem d_X9_oldLinesOfAll_7 : pm_B e_X9_oldLinesOfAll 7 (fun z => .if_icmp .ge z) 28 10 := ⟨21, by decide +kernel, by decide, rfl⟩
theorem d_X9_oldLinesOfAll_10 : pm_i e_X9_oldLinesOfAll 10 .iload_n .iload 1 11 := Or.inl ⟨1, by decide +kernel, rfl, rfl⟩
theorem d_X9_oldLinesOfAll_11 : pm_i e_X9_oldLinesOfAll 11 .aload_n .aload 0 12 := Or.inl ⟨0, by decide +kernel, rfl, rfl⟩
theorem d_X9_oldLinesOfAll_12 : pm_F e_X9_oldLinesOfAll 12 .getfield (RX9, "figures", "[LStalkRoom$Figure;") 15 := ⟨21, by decide +kernel, rfl, Or.inl wm_163⟩
theorem d_X9_oldLinesOfAll_15 : pm_i e_X9_oldLinesOfAll 15 .iload_n .iload 2 16 := Or.inl ⟨2, by decide +kernel, rfl, rfl⟩
theorem d_X9_oldLinesOfAll_16 : pm_D e_X9_oldLinesOfAll 16 1 (.aaload) 17 := ⟨by decide +kernel, rfl⟩
theorem d_X9_oldLinesOfAll_17 : pm_kV e_X9_oldLinesOfAll 17 e_X3_oldLines RX3 0 20 := ⟨173, by decide +kernel, rfl, fit_X9_oldLinesOfAll_X3_oldLines, wm_489, Or.inl ⟨wm_488, wm_490⟩⟩
theorem d_X9_oldLinesOfAll_20 : pm_D e_X9_oldLinesOfAll 20 1 (.iadd) 21 := ⟨by decide +kernel, rfl⟩
theorem d_X9_oldLinesOfAll_21 : pm_i e_X9_oldLinesOfAll 21 .istore_n .istore 1 22 := Or.inl ⟨1, by decide +kernel, rfl, rfl⟩
theorem d_X9_oldLinesOfAll_22 : pm_I e_X9_oldLinesOfAll 22 2 1 25 := ⟨1, by decide +kernel, by decide +kernel, rfl⟩
theorem d_X9_oldLinesOfAll_25 : pm_B e_X9_oldLinesOfAll 25 (fun z => .goto z) 4 28 := ⟨-21, by decide +kernel, by decide, rfl⟩
theorem d_X9_oldLinesOfAll_28 : pm_i e_X9_oldLinesOfAll 28 .iload_n .iload 1 29 := Or.inl ⟨1, by decide +kernel, rfl, rfl⟩
theorem d_X9_oldLinesOfAll_29 : pm_D e_X9_oldLinesOfAll 29 1 (.ireturn) 30 := ⟨by decide +kernel, rfl⟩
theorem d_X9_tellFraction_0 : pm_i e_X9_tellFraction 0 .lload_n .lload 1 1 := Or.inl ⟨1, by decide +kernel, rfl, rfl⟩
theorem d_X9_tellFraction_1 : pm_i e_X9_tellFraction 1 .lload_n .lload 3 2 := Or.inl ⟨3, by decide +kernel, rfl, rfl⟩
theorem d_X9_tellFraction_2 : pm_kS e_X9_tellFraction 2 e_X9_commonDivisor 2 5 := ⟨274, by decide +kernel, rfl, fit_X9_tellFraction_X9_commonDivisor, wm_429, Or.inl wm_428⟩
theorem d_X9_tellFraction_5 : pm_i e_X9_tellFraction 5 .lstore_n .lstore 5 7 := Or.inr ⟨by decide +kernel, rfl⟩
theorem d_X9_tellFraction_7 : pm_i e_X9_tellFraction 7 .lload_n .lload 5 9 := Or.inr ⟨by decide +kernel, rfl⟩
theorem d_X9_tellFraction_9 : pm_PL e_X9_tellFraction 9 0 10 := Or.inl ⟨0, by decide +kernel, by decide +kernel, rfl⟩
theorem d_X9_tellFraction_10 : pm_D e_X9_tellFraction 10 1 (.lcmp) 11 := ⟨by decide +kernel, rfl⟩
theorem d_X9_tellFraction_11 : pm_B e_X9_tellFraction 11 (fun z => .ifCond .le z) 30 14 := ⟨19, by decide +kernel, by decide, rfl⟩
theorem d_X9_tellFraction_14 : pm_i e_X9_tellFraction 14 .aload_n .aload 0 15 := Or.inl ⟨0, by decide +kernel, rfl, rfl⟩
theorem d_X9_tellFraction_15 : pm_i e_X9_tellFraction 15 .lload_n .lload 1 16 := Or.inl ⟨1, by decide +kernel, rfl, rfl⟩
theorem d_X9_tellFraction_16 : pm_i e_X9_tellFraction 16 .lload_n .lload 5 18 := Or.inr ⟨by decide +kernel, rfl⟩
theorem d_X9_tellFraction_18 : pm_D e_X9_tellFraction 18 1 (.ldiv) 19 := ⟨by decide +kernel, rfl⟩
theorem d_X9_tellFraction_19 : pm_F e_X9_tellFraction 19 .putfield (RX9, "fractionUpper", "J") 22 := ⟨74, by decide +kernel, rfl, Or.inl wm_174⟩
theorem d_X9_tellFraction_22 : pm_i e_X9_tellFraction 22 .aload_n .aload 0 23 := Or.inl ⟨0, by decide +kernel, rfl, rfl⟩
theorem d_X9_tellFraction_23 : pm_i e_X9_tellFraction 23 .lload_n .lload 3 24 := Or.inl ⟨3, by decide +kernel, rfl, rfl⟩
theorem d_X9_tellFraction_24 : pm_i e_X9_tellFraction 24 .lload_n .lload 5 26 := Or.inr ⟨by decide +kernel, rfl⟩
theorem d_X9_tellFraction_26 : pm_D e_X9_tellFraction 26 1 (.ldiv) 27 := ⟨by decide +kernel, rfl⟩
theorem d_X9_tellFraction_27 : pm_F e_X9_tellFraction 27 .putfield (RX9, "fractionLower", "J") 30 := ⟨77, by decide +kernel, rfl, Or.inl wm_175⟩
theorem d_X9_tellFraction_30 : pm_D e_X9_tellFraction 30 1 (.return_) 31 := ⟨by decide +kernel, rfl⟩
theorem d_X9_offOf_0 : pm_i e_X9_offOf 0 .aload_n .aload 1 1 := Or.inl ⟨1, by decide +kernel, rfl, rfl⟩
theorem d_X9_offOf_1 : pm_B e_X9_offOf 1 (fun z => .ifnonnull z) 8 4 := ⟨7, by decide +kernel, by decide, rfl⟩
theorem d_X9_offOf_4 : pm_P e_X9_offOf 4 2000000 7 := Or.inr <| Or.inr <| Or.inr <| Or.inr ⟨278, by decide +kernel, wm_663, rfl⟩
theorem d_X9_offOf_7 : pm_D e_X9_offOf 7 1 (.ireturn) 8 := ⟨by decide +kernel, rfl⟩
theorem d_X9_offOf_8 : pm_i e_X9_offOf 8 .aload_n .aload 1 9 := Or.inl ⟨1, by decide +kernel, rfl, rfl⟩
theorem d_X9_offOf_9 : pm_i e_X9_offOf 9 .aload_n .aload 0 10 := Or.inl ⟨0, by decide +kernel, rfl, rfl⟩
theorem d_X9_offOf_10 : pm_F e_X9_offOf 10 .getfield (RX9, "odds", "LStalkRoom$Odds;") 13 := ⟨53, by decide +kernel, rfl, Or.inl wm_168⟩
theorem d_X9_offOf_13_1 : pm_kV e_X9_offOf 13 e_X1_weigh RX1 1 16 := ⟨135, by decide +kernel, rfl, fit_X9_offOf_X1_weigh, wm_375, Or.inl ⟨wm_374, wm_376⟩⟩
theorem d_X9_offOf_13_2 : pm_kV e_X9_offOf 13 e_X2_weigh RX2 1 16 := ⟨135, by decide +kernel, rfl, fit_X9_offOf_X2_weigh, wm_379, Or.inr (Or.inr ⟨yX1_weigh, RX1, _, _, _, wm_374, wm_377, wm_378, ⟨by decide +kernel, by decide +kernel⟩, wm_375, wm_422, by decide +kernel⟩)⟩
theorem d_X9_offOf_13_6 : pm_kV e_X9_offOf 13 e_X6_weigh RX6 1 16 := ⟨135, by decide +kernel, rfl, fit_X9_offOf_X6_weigh, wm_391, Or.inr (Or.inr ⟨yX1_weigh, RX1, _, _, _, wm_374, wm_377, wm_390, ⟨by decide +kernel, by decide +kernel⟩, wm_375, wm_422, by decide +kernel⟩)⟩
theorem d_X9_offOf_13_7 : pm_kV e_X9_offOf 13 e_X6_weigh RX7 1 16 := ⟨135, by decide +kernel, rfl, fit_X9_offOf_X6_weigh, wm_391, Or.inr (Or.inr ⟨yX1_weigh, RX1, _, _, _, wm_374, wm_377, wm_421, ⟨by decide +kernel, by decide +kernel⟩, wm_375, wm_422, by decide +kernel⟩)⟩
theorem d_X9_offOf_16 : pm_i e_X9_offOf 16 .aload_n .aload 0 17 := Or.inl ⟨0, by decide +kernel, rfl, rfl⟩
theorem d_X9_offOf_17 : pm_kV e_X9_offOf 17 e_X9_weighedDiffer RX9 0 20 := ⟨254, by decide +kernel, rfl, fit_X9_offOf_X9_weighedDiffer, wm_666, Or.inl ⟨wm_664, wm_16⟩⟩
theorem d_X9_offOf_20 : pm_D e_X9_offOf 20 1 (.ireturn) 21 := ⟨by decide +kernel, rfl⟩
theorem d_X9_weighedDiffer_0 : pm_i e_X9_weighedDiffer 0 .aload_n .aload 0 1 := Or.inl ⟨0, by decide +kernel, rfl, rfl⟩
theorem d_X9_weighedDiffer_1 : pm_F e_X9_weighedDiffer 1 .getfield (RX9, "odds", "LStalkRoom$Odds;") 4 := ⟨53, by decide +kernel, rfl, Or.inl wm_168⟩
theorem d_X9_weighedDiffer_4 : pm_i e_X9_weighedDiffer 4 .aload_n .aload 0 5 := Or.inl ⟨0, by decide +kernel, rfl, rfl⟩
theorem d_X9_weighedDiffer_5 : pm_F e_X9_weighedDiffer 5 .getfield (RX9, "parts", "[I") 8 := ⟨57, by decide +kernel, rfl, Or.inl wm_169⟩
theorem d_X9_weighedDiffer_8 : pm_kV e_X9_weighedDiffer 8 e_X4_partsInto RX4 1 11 := ⟨257, by decide +kernel, rfl, fit_X9_weighedDiffer_X4_partsInto, wm_669, Or.inl ⟨wm_668, wm_670⟩⟩
theorem d_X9_weighedDiffer_11 : pm_P e_X9_weighedDiffer 11 0 12 := Or.inl ⟨0, by decide +kernel, by decide +kernel, rfl⟩
theorem d_X9_weighedDiffer_12 : pm_i e_X9_weighedDiffer 12 .istore_n .istore 1 13 := Or.inl ⟨1, by decide +kernel, rfl, rfl⟩
theorem d_X9_weighedDiffer_13 : pm_P e_X9_weighedDiffer 13 0 14 := Or.inl ⟨0, by decide +kernel, by decide +kernel, rfl⟩
theorem d_X9_weighedDiffer_14 : pm_i e_X9_weighedDiffer 14 .istore_n .istore 2 15 := Or.inl ⟨2, by decide +kernel, rfl, rfl⟩
theorem d_X9_weighedDiffer_15 : pm_i e_X9_weighedDiffer 15 .iload_n .iload 2 16 := Or.inl ⟨2, by decide +kernel, rfl, rfl⟩
theorem d_X9_weighedDiffer_16 : pm_P e_X9_weighedDiffer 16 30 18 := Or.inr <| Or.inl ⟨30, by decide +kernel, by decide +kernel, rfl⟩
theorem d_X9_weighedDiffer_18 : pm_B e_X9_weighedDiffer 18 (fun z => .if_icmp .gt z) 46 21 := ⟨28, by decide +kernel, by decide, rfl⟩
theorem d_X9_weighedDiffer_21 : pm_i e_X9_weighedDiffer 21 .iload_n .iload 1 22 := Or.inl ⟨1, by decide +kernel, rfl, rfl⟩
theorem d_X9_weighedDiffer_22 : pm_i e_X9_weighedDiffer 22 .aload_n .aload 0 23 := Or.inl ⟨0, by decide +kernel, rfl, rfl⟩
theorem d_X9_weighedDiffer_23 : pm_F e_X9_weighedDiffer 23 .getfield (RX9, "parts", "[I") 26 := ⟨57, by decide +kernel, rfl, Or.inl wm_169⟩
theorem d_X9_weighedDiffer_26 : pm_i e_X9_weighedDiffer 26 .iload_n .iload 2 27 := Or.inl ⟨2, by decide +kernel, rfl, rfl⟩
theorem d_X9_weighedDiffer_27 : pm_D e_X9_weighedDiffer 27 1 (.iaload) 28 := ⟨by decide +kernel, rfl⟩
theorem d_X9_weighedDiffer_28 : pm_i e_X9_weighedDiffer 28 .aload_n .aload 0 29 := Or.inl ⟨0, by decide +kernel, rfl, rfl⟩
theorem d_X9_weighedDiffer_29 : pm_F e_X9_weighedDiffer 29 .getfield (RX9, "otherParts", "[I") 32 := ⟨61, by decide +kernel, rfl, Or.inl wm_170⟩
theorem d_X9_weighedDiffer_32 : pm_i e_X9_weighedDiffer 32 .iload_n .iload 2 33 := Or.inl ⟨2, by decide +kernel, rfl, rfl⟩
theorem d_X9_weighedDiffer_33 : pm_D e_X9_weighedDiffer 33 1 (.iaload) 34 := ⟨by decide +kernel, rfl⟩
theorem d_X9_weighedDiffer_34 : pm_D e_X9_weighedDiffer 34 1 (.isub) 35 := ⟨by decide +kernel, rfl⟩
theorem d_X9_weighedDiffer_35 : pm_kS e_X9_weighedDiffer 35 e_J9_abs_0f7a4 1 38 := ⟨279, by decide +kernel, rfl, fit_X9_weighedDiffer_J9_abs_0f7a4, wm_674, Or.inl wm_673⟩
theorem d_X9_weighedDiffer_38 : pm_D e_X9_weighedDiffer 38 1 (.iadd) 39 := ⟨by decide +kernel, rfl⟩
theorem d_X9_weighedDiffer_39 : pm_i e_X9_weighedDiffer 39 .istore_n .istore 1 40 := Or.inl ⟨1, by decide +kernel, rfl, rfl⟩
theorem d_X9_weighedDiffer_40 : pm_I e_X9_weighedDiffer 40 2 1 43 := ⟨1, by decide +kernel, by decide +kernel, rfl⟩
theorem d_X9_weighedDiffer_43 : pm_B e_X9_weighedDiffer 43 (fun z => .goto z) 15 46 := ⟨-28, by decide +kernel, by decide, rfl⟩
theorem d_X9_weighedDiffer_46 : pm_i e_X9_weighedDiffer 46 .iload_n .iload 1 47 := Or.inl ⟨1, by decide +kernel, rfl, rfl⟩
theorem d_X9_weighedDiffer_47 : pm_D e_X9_weighedDiffer 47 1 (.ireturn) 48 := ⟨by decide +kernel, rfl⟩
theorem d_X9_commonDivisor_0 : pm_P e_X9_commonDivisor 0 0 1 := Or.inl ⟨0, by decide +kernel, by decide +kernel, rfl⟩
theorem d_X9_commonDivisor_1 : pm_i e_X9_commonDivisor 1 .istore_n .istore 4 3 := Or.inr ⟨by decide +kernel, rfl⟩
theorem d_X9_commonDivisor_3 : pm_i e_X9_commonDivisor 3 .iload_n .iload 4 5 := Or.inr ⟨by decide +kernel, rfl⟩
theorem d_X9_commonDivisor_5 : pm_P e_X9_commonDivisor 5 100 7 := Or.inr <| Or.inl ⟨100, by decide +kernel, by decide +kernel, rfl⟩
theorem d_X9_commonDivisor_7 : pm_B e_X9_commonDivisor 7 (fun z => .if_icmp .ge z) 32 10 := ⟨25, by decide +kernel, by decide, rfl⟩
theorem d_X9_commonDivisor_10 : pm_i e_X9_commonDivisor 10 .lload_n .lload 2 11 := Or.inl ⟨2, by decide +kernel, rfl, rfl⟩
theorem d_X9_commonDivisor_11 : pm_PL e_X9_commonDivisor 11 0 12 := Or.inl ⟨0, by decide +kernel, by decide +kernel, rfl⟩
theorem d_X9_commonDivisor_12 : pm_D e_X9_commonDivisor 12 1 (.lcmp) 13 := ⟨by decide +kernel, rfl⟩
theorem d_X9_commonDivisor_13 : pm_B e_X9_commonDivisor 13 (fun z => .ifCond .eq z) 32 16 := ⟨19, by decide +kernel, by decide, rfl⟩
theorem d_X9_commonDivisor_16 : pm_i e_X9_commonDivisor 16 .lload_n .lload 0 17 := Or.inl ⟨0, by decide +kernel, rfl, rfl⟩
theorem d_X9_commonDivisor_17 : pm_i e_X9_commonDivisor 17 .lload_n .lload 2 18 := Or.inl ⟨2, by decide +kernel, rfl, rfl⟩
theorem d_X9_commonDivisor_18 : pm_D e_X9_commonDivisor 18 1 (.lrem) 19 := ⟨by decide +kernel, rfl⟩
theorem d_X9_commonDivisor_19 : pm_i e_X9_commonDivisor 19 .lstore_n .lstore 5 21 := Or.inr ⟨by decide +kernel, rfl⟩
theorem d_X9_commonDivisor_21 : pm_i e_X9_commonDivisor 21 .lload_n .lload 2 22 := Or.inl ⟨2, by decide +kernel, rfl, rfl⟩
theorem d_X9_commonDivisor_22 : pm_i e_X9_commonDivisor 22 .lstore_n .lstore 0 23 := Or.inl ⟨0, by decide +kernel, rfl, rfl⟩
theorem d_X9_commonDivisor_23 : pm_i e_X9_commonDivisor 23 .lload_n .lload 5 25 := Or.inr ⟨by decide +kernel, rfl⟩
theorem d_X9_commonDivisor_25 : pm_i e_X9_commonDivisor 25 .lstore_n .lstore 2 26 := Or.inl ⟨2, by decide +kernel, rfl, rfl⟩
theorem d_X9_commonDivisor_26 : pm_I e_X9_commonDivisor 26 4 1 29 := ⟨1, by decide +kernel, by decide +kernel, rfl⟩
theorem d_X9_commonDivisor_29 : pm_B e_X9_commonDivisor 29 (fun z => .goto z) 3 32 := ⟨-26, by decide +kernel, by decide, rfl⟩
theorem d_X9_commonDivisor_32 : pm_i e_X9_commonDivisor 32 .lload_n .lload 0 33 := Or.inl ⟨0, by decide +kernel, rfl, rfl⟩
theorem d_X9_commonDivisor_33 : pm_D e_X9_commonDivisor 33 1 (.lreturn) 34 := ⟨by decide +kernel, rfl⟩
theorem d_X9_asStalks_0 : pm_i e_X9_asStalks 0 .aload_n .aload 0 1 := Or.inl ⟨0, by decide +kernel, rfl, rfl⟩
theorem d_X9_asStalks_1 : pm_D e_X9_asStalks 1 3 (.instanceof 93) 4 := ⟨by decide +kernel, rfl⟩
theorem d_X9_asStalks_4 : pm_B e_X9_asStalks 4 (fun z => .ifCond .eq z) 14 7 := ⟨10, by decide +kernel, by decide, rfl⟩
theorem d_X9_asStalks_7 : pm_i e_X9_asStalks 7 .aload_n .aload 0 8 := Or.inl ⟨0, by decide +kernel, rfl, rfl⟩
theorem d_X9_asStalks_8 : pm_D e_X9_asStalks 8 3 (.checkcast 93) 11 := ⟨by decide +kernel, rfl⟩
theorem d_X9_asStalks_11 : pm_i e_X9_asStalks 11 .astore_n .astore 1 12 := Or.inl ⟨1, by decide +kernel, rfl, rfl⟩
theorem d_X9_asStalks_12 : pm_i e_X9_asStalks 12 .aload_n .aload 1 13 := Or.inl ⟨1, by decide +kernel, rfl, rfl⟩
theorem d_X9_asStalks_13 : pm_D e_X9_asStalks 13 1 (.areturn) 14 := ⟨by decide +kernel, rfl⟩
theorem d_X9_asStalks_14 : pm_D e_X9_asStalks 14 1 (.aconst_null) 15 := ⟨by decide +kernel, rfl⟩
theorem d_X9_asStalks_15 : pm_D e_X9_asStalks 15 1 (.areturn) 16 := ⟨by decide +kernel, rfl⟩
theorem d_X9_isBundle_0 : pm_i e_X9_isBundle 0 .iload_n .iload 0 1 := Or.inl ⟨0, by decide +kernel, rfl, rfl⟩
theorem d_X9_isBundle_1 : pm_P e_X9_isBundle 1 4 2 := Or.inl ⟨4, by decide +kernel, by decide +kernel, rfl⟩
theorem d_X9_isBundle_2 : pm_B e_X9_isBundle 2 (fun z => .if_icmp .lt z) 26 5 := ⟨24, by decide +kernel, by decide, rfl⟩
theorem d_X9_isBundle_5 : pm_i e_X9_isBundle 5 .iload_n .iload 0 6 := Or.inl ⟨0, by decide +kernel, rfl, rfl⟩
theorem d_X9_isBundle_6 : pm_P e_X9_isBundle 6 60 8 := Or.inr <| Or.inl ⟨60, by decide +kernel, by decide +kernel, rfl⟩
theorem d_X9_isBundle_8 : pm_B e_X9_isBundle 8 (fun z => .if_icmp .gt z) 26 11 := ⟨18, by decide +kernel, by decide, rfl⟩
theorem d_X9_isBundle_11 : pm_i e_X9_isBundle 11 .iload_n .iload 1 12 := Or.inl ⟨1, by decide +kernel, rfl, rfl⟩
theorem d_X9_isBundle_12 : pm_P e_X9_isBundle 12 2 13 := Or.inl ⟨2, by decide +kernel, by decide +kernel, rfl⟩
theorem d_X9_isBundle_13 : pm_B e_X9_isBundle 13 (fun z => .if_icmp .lt z) 26 16 := ⟨13, by decide +kernel, by decide, rfl⟩
theorem d_X9_isBundle_16 : pm_i e_X9_isBundle 16 .iload_n .iload 1 17 := Or.inl ⟨1, by decide +kernel, rfl, rfl⟩
theorem d_X9_isBundle_17 : pm_P e_X9_isBundle 17 8 19 := Or.inr <| Or.inl ⟨8, by decide +kernel, by decide +kernel, rfl⟩
theorem d_X9_isBundle_19 : pm_B e_X9_isBundle 19 (fun z => .if_icmp .gt z) 26 22 := ⟨7, by decide +kernel, by decide, rfl⟩
theorem d_X9_isBundle_22 : pm_P e_X9_isBundle 22 1 23 := Or.inl ⟨1, by decide +kernel, by decide +kernel, rfl⟩
theorem d_X9_isBundle_23 : pm_B e_X9_isBundle 23 (fun z => .goto z) 27 26 := ⟨4, by decide +kernel, by decide, rfl⟩
theorem d_X9_isBundle_26 : pm_P e_X9_isBundle 26 0 27 := Or.inl ⟨0, by decide +kernel, by decide +kernel, rfl⟩
theorem d_X9_isBundle_27 : pm_D e_X9_isBundle 27 1 (.ireturn) 28 := ⟨by decide +kernel, rfl⟩
theorem d_X9_isNumber_0 : pm_i e_X9_isNumber 0 .iload_n .iload 0 1 := Or.inl ⟨0, by decide +kernel, rfl, rfl⟩
theorem d_X9_isNumber_1 : pm_B e_X9_isNumber 1 (fun z => .ifCond .lt z) 14 4 := ⟨13, by decide +kernel, by decide, rfl⟩
theorem d_X9_isNumber_4 : pm_i e_X9_isNumber 4 .iload_n .iload 0 5 := Or.inl ⟨0, by decide +kernel, rfl, rfl⟩
theorem d_X9_isNumber_5 : pm_P e_X9_isNumber 5 64 7 := Or.inr <| Or.inl ⟨64, by decide +kernel, by decide +kernel, rfl⟩
theorem d_X9_isNumber_7 : pm_B e_X9_isNumber 7 (fun z => .if_icmp .ge z) 14 10 := ⟨7, by decide +kernel, by decide, rfl⟩
theorem d_X9_isNumber_10 : pm_P e_X9_isNumber 10 1 11 := Or.inl ⟨1, by decide +kernel, by decide +kernel, rfl⟩
theorem d_X9_isNumber_11 : pm_B e_X9_isNumber 11 (fun z => .goto z) 15 14 := ⟨4, by decide +kernel, by decide, rfl⟩
theorem d_X9_isNumber_14 : pm_P e_X9_isNumber 14 0 15 := Or.inl ⟨0, by decide +kernel, by decide +kernel, rfl⟩
theorem d_X9_isNumber_15 : pm_D e_X9_isNumber 15 1 (.ireturn) 16 := ⟨by decide +kernel, rfl⟩
theorem d_X9_isOrder_0 : pm_i e_X9_isOrder 0 .iload_n .iload 0 1 := Or.inl ⟨0, by decide +kernel, rfl, rfl⟩
theorem d_X9_isOrder_1 : pm_B e_X9_isOrder 1 (fun z => .ifCond .lt z) 13 4 := ⟨12, by decide +kernel, by decide, rfl⟩
theorem d_X9_isOrder_4 : pm_i e_X9_isOrder 4 .iload_n .iload 0 5 := Or.inl ⟨0, by decide +kernel, rfl, rfl⟩
theorem d_X9_isOrder_5 : pm_P e_X9_isOrder 5 2 6 := Or.inl ⟨2, by decide +kernel, by decide +kernel, rfl⟩
theorem d_X9_isOrder_6 : pm_B e_X9_isOrder 6 (fun z => .if_icmp .gt z) 13 9 := ⟨7, by decide +kernel, by decide, rfl⟩
theorem d_X9_isOrder_9 : pm_P e_X9_isOrder 9 1 10 := Or.inl ⟨1, by decide +kernel, by decide +kernel, rfl⟩
theorem d_X9_isOrder_10 : pm_B e_X9_isOrder 10 (fun z => .goto z) 14 13 := ⟨4, by decide +kernel, by decide, rfl⟩
theorem d_X9_isOrder_13 : pm_P e_X9_isOrder 13 0 14 := Or.inl ⟨0, by decide +kernel, by decide +kernel, rfl⟩
theorem d_X9_isOrder_14 : pm_D e_X9_isOrder 14 1 (.ireturn) 15 := ⟨by decide +kernel, rfl⟩
theorem d_X9_isOld_0 : pm_i e_X9_isOld 0 .iload_n .iload 0 1 := Or.inl ⟨0, by decide +kernel, rfl, rfl⟩
theorem d_X9_isOld_1 : pm_P e_X9_isOld 1 6 3 := Or.inr <| Or.inl ⟨6, by decide +kernel, by decide +kernel, rfl⟩
theorem d_X9_isOld_3 : pm_B e_X9_isOld 3 (fun z => .if_icmp .eq z) 12 6 := ⟨9, by decide +kernel, by decide, rfl⟩
theorem d_X9_isOld_6 : pm_i e_X9_isOld 6 .iload_n .iload 0 7 := Or.inl ⟨0, by decide +kernel, rfl, rfl⟩
theorem d_X9_isOld_7 : pm_P e_X9_isOld 7 9 9 := Or.inr <| Or.inl ⟨9, by decide +kernel, by decide +kernel, rfl⟩
theorem d_X9_isOld_9 : pm_B e_X9_isOld 9 (fun z => .if_icmp .ne z) 16 12 := ⟨7, by decide +kernel, by decide, rfl⟩
theorem d_X9_isOld_12 : pm_P e_X9_isOld 12 1 13 := Or.inl ⟨1, by decide +kernel, by decide +kernel, rfl⟩
theorem d_X9_isOld_13 : pm_B e_X9_isOld 13 (fun z => .goto z) 17 16 := ⟨4, by decide +kernel, by decide, rfl⟩
theorem d_X9_isOld_16 : pm_P e_X9_isOld 16 0 17 := Or.inl ⟨0, by decide +kernel, by decide +kernel, rfl⟩
theorem d_X9_isOld_17 : pm_D e_X9_isOld 17 1 (.ireturn) 18 := ⟨by decide +kernel, rfl⟩
theorem d_X9_turnedBits_0 : pm_P e_X9_turnedBits 0 0 1 := Or.inl ⟨0, by decide +kernel, by decide +kernel, rfl⟩
theorem d_X9_turnedBits_1 : pm_i e_X9_turnedBits 1 .istore_n .istore 1 2 := Or.inl ⟨1, by decide +kernel, rfl, rfl⟩
theorem d_X9_turnedBits_2 : pm_P e_X9_turnedBits 2 0 3 := Or.inl ⟨0, by decide +kernel, by decide +kernel, rfl⟩
theorem d_X9_turnedBits_3 : pm_i e_X9_turnedBits 3 .istore_n .istore 2 4 := Or.inl ⟨2, by decide +kernel, rfl, rfl⟩
theorem d_X9_turnedBits_4 : pm_i e_X9_turnedBits 4 .iload_n .iload 2 5 := Or.inl ⟨2, by decide +kernel, rfl, rfl⟩
theorem d_X9_turnedBits_5 : pm_P e_X9_turnedBits 5 6 7 := Or.inr <| Or.inl ⟨6, by decide +kernel, by decide +kernel, rfl⟩
theorem d_X9_turnedBits_7 : pm_B e_X9_turnedBits 7 (fun z => .if_icmp .ge z) 26 10 := ⟨19, by decide +kernel, by decide, rfl⟩
theorem d_X9_turnedBits_10 : pm_i e_X9_turnedBits 10 .iload_n .iload 1 11 := Or.inl ⟨1, by decide +kernel, rfl, rfl⟩
theorem d_X9_turnedBits_11 : pm_P e_X9_turnedBits 11 1 12 := Or.inl ⟨1, by decide +kernel, by decide +kernel, rfl⟩
theorem d_X9_turnedBits_12 : pm_D e_X9_turnedBits 12 1 (.ishl) 13 := ⟨by decide +kernel, rfl⟩
theorem d_X9_turnedBits_13 : pm_i e_X9_turnedBits 13 .iload_n .iload 0 14 := Or.inl ⟨0, by decide +kernel, rfl, rfl⟩
theorem d_X9_turnedBits_14 : pm_i e_X9_turnedBits 14 .iload_n .iload 2 15 := Or.inl ⟨2, by decide +kernel, rfl, rfl⟩
theorem d_X9_turnedBits_15 : pm_D e_X9_turnedBits 15 1 (.ishr) 16 := ⟨by decide +kernel, rfl⟩
theorem d_X9_turnedBits_16 : pm_P e_X9_turnedBits 16 1 17 := Or.inl ⟨1, by decide +kernel, by decide +kernel, rfl⟩
theorem d_X9_turnedBits_17 : pm_D e_X9_turnedBits 17 1 (.iand) 18 := ⟨by decide +kernel, rfl⟩
theorem d_X9_turnedBits_18 : pm_D e_X9_turnedBits 18 1 (.ior) 19 := ⟨by decide +kernel, rfl⟩
theorem d_X9_turnedBits_19 : pm_i e_X9_turnedBits 19 .istore_n .istore 1 20 := Or.inl ⟨1, by decide +kernel, rfl, rfl⟩
theorem d_X9_turnedBits_20 : pm_I e_X9_turnedBits 20 2 1 23 := ⟨1, by decide +kernel, by decide +kernel, rfl⟩
theorem d_X9_turnedBits_23 : pm_B e_X9_turnedBits 23 (fun z => .goto z) 4 26 := ⟨-19, by decide +kernel, by decide, rfl⟩
theorem d_X9_turnedBits_26 : pm_i e_X9_turnedBits 26 .iload_n .iload 1 27 := Or.inl ⟨1, by decide +kernel, rfl, rfl⟩
theorem d_X9_turnedBits_27 : pm_D e_X9_turnedBits 27 1 (.ireturn) 28 := ⟨by decide +kernel, rfl⟩
theorem d_X9_oppositeBits_0 : pm_i e_X9_oppositeBits 0 .iload_n .iload 0 1 := Or.inl ⟨0, by decide +kernel, rfl, rfl⟩
theorem d_X9_oppositeBits_1 : pm_P e_X9_oppositeBits 1 63 3 := Or.inr <| Or.inl ⟨63, by decide +kernel, by decide +kernel, rfl⟩
theorem d_X9_oppositeBits_3 : pm_D e_X9_oppositeBits 3 1 (.ixor) 4 := ⟨by decide +kernel, rfl⟩
theorem d_X9_oppositeBits_4 : pm_D e_X9_oppositeBits 4 1 (.ireturn) 5 := ⟨by decide +kernel, rfl⟩
theorem d_X9_nestedBits_0 : pm_i e_X9_nestedBits 0 .iload_n .iload 0 1 := Or.inl ⟨0, by decide +kernel, rfl, rfl⟩
theorem d_X9_nestedBits_1 : pm_P e_X9_nestedBits 1 1 2 := Or.inl ⟨1, by decide +kernel, by decide +kernel, rfl⟩
theorem d_X9_nestedBits_2 : pm_D e_X9_nestedBits 2 1 (.ishr) 3 := ⟨by decide +kernel, rfl⟩
theorem d_X9_nestedBits_3 : pm_P e_X9_nestedBits 3 7 5 := Or.inr <| Or.inl ⟨7, by decide +kernel, by decide +kernel, rfl⟩
theorem d_X9_nestedBits_5 : pm_D e_X9_nestedBits 5 1 (.iand) 6 := ⟨by decide +kernel, rfl⟩
theorem d_X9_nestedBits_6 : pm_i e_X9_nestedBits 6 .iload_n .iload 0 7 := Or.inl ⟨0, by decide +kernel, rfl, rfl⟩
theorem d_X9_nestedBits_7 : pm_P e_X9_nestedBits 7 2 8 := Or.inl ⟨2, by decide +kernel, by decide +kernel, rfl⟩
theorem d_X9_nestedBits_8 : pm_D e_X9_nestedBits 8 1 (.ishr) 9 := ⟨by decide +kernel, rfl⟩
theorem d_X9_nestedBits_9 : pm_P e_X9_nestedBits 9 7 11 := Or.inr <| Or.inl ⟨7, by decide +kernel, by decide +kernel, rfl⟩
theorem d_X9_nestedBits_11 : pm_D e_X9_nestedBits 11 1 (.iand) 12 := ⟨by decide +kernel, rfl⟩
theorem d_X9_nestedBits_12 : pm_P e_X9_nestedBits 12 3 13 := Or.inl ⟨3, by decide +kernel, by decide +kernel, rfl⟩
theorem d_X9_nestedBits_13 : pm_D e_X9_nestedBits 13 1 (.ishl) 14 := ⟨by decide +kernel, rfl⟩
theorem d_X9_nestedBits_14 : pm_D e_X9_nestedBits 14 1 (.ior) 15 := ⟨by decide +kernel, rfl⟩
theorem d_X9_nestedBits_15 : pm_D e_X9_nestedBits 15 1 (.ireturn) 16 := ⟨by decide +kernel, rfl⟩
