theorem lw_in1 {w : Cond} (h : w ∈ tables_1_1) : w ∈ lw_tbl := List.mem_append_right _ (show w ∈ tables_1_1 ++ (tables_1_2 ++ (tables_1_3 ++ (tables_1_4 ++ tables_1_5))) from List.mem_append_left _ h)
theorem lw_in2 {w : Cond} (h : w ∈ tables_1_2) : w ∈ lw_tbl := List.mem_append_right _ (show w ∈ tables_1_1 ++ (tables_1_2 ++ (tables_1_3 ++ (tables_1_4 ++ tables_1_5))) from List.mem_append_right _ (List.mem_append_left _ h))
theorem lw_in3 {w : Cond} (h : w ∈ tables_1_3) : w ∈ lw_tbl := List.mem_append_right _ (show w ∈ tables_1_1 ++ (tables_1_2 ++ (tables_1_3 ++ (tables_1_4 ++ tables_1_5))) from List.mem_append_right _ (List.mem_append_right _ (List.mem_append_left _ h)))
theorem lw_in4 {w : Cond} (h : w ∈ tables_1_4) : w ∈ lw_tbl := List.mem_append_right _ (show w ∈ tables_1_1 ++ (tables_1_2 ++ (tables_1_3 ++ (tables_1_4 ++ tables_1_5))) from List.mem_append_right _ (List.mem_append_right _ (List.mem_append_right _ (List.mem_append_left _ h))))
theorem lw_in5 {w : Cond} (h : w ∈ tables_1_5) : w ∈ lw_tbl := List.mem_append_right _ (show w ∈ tables_1_1 ++ (tables_1_2 ++ (tables_1_3 ++ (tables_1_4 ++ tables_1_5))) from List.mem_append_right _ (List.mem_append_right _ (List.mem_append_right _ (List.mem_append_right _ (h)))))
set_option maxRecDepth 100000 in
theorem wm_0 : Cond.selects RX9 yX9_keep yX9_keep ∈ pm_tbl := pm_m (List.mem_append_left _ (List.mem_of_getElem? (i := 0) rfl)) rfl
set_option maxRecDepth 100000 in
theorem wm_1 : Cond.selects RX9 yX9_casterAt yX9_casterAt ∈ pm_tbl := pm_m (List.mem_append_left _ (List.mem_of_getElem? (i := 1) rfl)) rfl
set_option maxRecDepth 100000 in
theorem wm_2 : Cond.selects RX6 yX6_rest yX6_rest ∈ pm_tbl := pm_m (List.mem_append_left _ (List.mem_of_getElem? (i := 2) rfl)) rfl
set_option maxRecDepth 100000 in
theorem wm_3 : Cond.selects RX9 yX9_found yX9_found ∈ pm_tbl := pm_m (List.mem_append_left _ (List.mem_of_getElem? (i := 3) rfl)) rfl
set_option maxRecDepth 100000 in
theorem wm_4 : Cond.selects RX6 yX6_partHeaps yX6_partHeaps ∈ pm_tbl := pm_m (List.mem_append_left _ (List.mem_of_getElem? (i := 4) rfl)) rfl
set_option maxRecDepth 100000 in
theorem wm_5 : Cond.selects RX6 yX6_sharesOf yX6_sharesOf ∈ pm_tbl := pm_m (List.mem_append_left _ (List.mem_of_getElem? (i := 5) rfl)) rfl
set_option maxRecDepth 100000 in
theorem wm_6 : Cond.selects RX6 yX6_partHeap yX6_partHeap ∈ pm_tbl := pm_m (List.mem_append_left _ (List.mem_of_getElem? (i := 6) rfl)) rfl
set_option maxRecDepth 100000 in
theorem wm_7 : Cond.selects RX9 yX9_tellFraction yX9_tellFraction ∈ pm_tbl := pm_m (List.mem_append_left _ (List.mem_of_getElem? (i := 7) rfl)) rfl
set_option maxRecDepth 100000 in
theorem wm_8 : Cond.selects RX9 yX9_figureAt yX9_figureAt ∈ pm_tbl := pm_m (List.mem_append_left _ (List.mem_of_getElem? (i := 8) rfl)) rfl
set_option maxRecDepth 100000 in
theorem wm_9 : Cond.selects RX8 yX8_meetAll yX8_meetAll ∈ pm_tbl := pm_m (List.mem_append_left _ (List.mem_of_getElem? (i := 9) rfl)) rfl
set_option maxRecDepth 100000 in
theorem wm_10 : Cond.selects RX9 yX9_rowAt yX9_rowAt ∈ pm_tbl := pm_m (List.mem_append_left _ (List.mem_of_getElem? (i := 10) rfl)) rfl
set_option maxRecDepth 100000 in
theorem wm_11 : Cond.selects RX0 yX0_isMisfit yX0_isMisfit ∈ pm_tbl := pm_m (List.mem_append_left _ (List.mem_of_getElem? (i := 11) rfl)) rfl
set_option maxRecDepth 100000 in
theorem wm_12 : Cond.selects RX0 yX0_isMisfitPair yX0_isMisfitPair ∈ pm_tbl := pm_m (List.mem_append_left _ (List.mem_of_getElem? (i := 12) rfl)) rfl
set_option maxRecDepth 100000 in
theorem wm_13 : Cond.selects RX0 yX0_isMendedBy yX0_isMendedBy ∈ pm_tbl := pm_m (List.mem_append_left _ (List.mem_of_getElem? (i := 13) rfl)) rfl
set_option maxRecDepth 100000 in
theorem wm_14 : Cond.selects RX0 yX0_changePlaces yX0_changePlaces ∈ pm_tbl := pm_m (List.mem_append_left _ (List.mem_of_getElem? (i := 14) rfl)) rfl
set_option maxRecDepth 100000 in
theorem wm_15 : Cond.selects RX9 yX9_offOf yX9_offOf ∈ pm_tbl := pm_m (List.mem_append_left _ (List.mem_of_getElem? (i := 15) rfl)) rfl
set_option maxRecDepth 100000 in
theorem wm_16 : Cond.selects RX9 yX9_weighedDiffer yX9_weighedDiffer ∈ pm_tbl := pm_m (List.mem_append_left _ (List.mem_of_getElem? (i := 16) rfl)) rfl
set_option maxRecDepth 100000 in
theorem wm_17 : Cond.selects RX9 yX9_rowsThere yX9_rowsThere ∈ pm_tbl := pm_m (List.mem_append_left _ (List.mem_of_getElem? (i := 17) rfl)) rfl
set_option maxRecDepth 100000 in
theorem wm_18 : Cond.selects RX9 yX9_oldLinesOfAll yX9_oldLinesOfAll ∈ pm_tbl := pm_m (List.mem_append_left _ (List.mem_of_getElem? (i := 18) rfl)) rfl
set_option maxRecDepth 100000 in
theorem wm_19 : Cond.selects RX10 yX10_put yX10_put ∈ pm_tbl := pm_m (List.mem_append_left _ (List.mem_of_getElem? (i := 19) rfl)) rfl
set_option maxRecDepth 100000 in
theorem wm_20 : Cond.selects RX10 yX10_isCaster yX10_isCaster ∈ pm_tbl := pm_m (List.mem_append_left _ (List.mem_of_getElem? (i := 20) rfl)) rfl
set_option maxRecDepth 100000 in
theorem wm_21 : Cond.selects RX10 yX10_tells yX10_tells ∈ pm_tbl := pm_m (List.mem_append_left _ (List.mem_of_getElem? (i := 21) rfl)) rfl
set_option maxRecDepth 100000 in
theorem wm_22 : Cond.selects RX10 yX10_parts yX10_parts ∈ pm_tbl := pm_m (List.mem_append_left _ (List.mem_of_getElem? (i := 22) rfl)) rfl
set_option maxRecDepth 100000 in
theorem wm_23 : Cond.selects RX10 yX10_meets yX10_meets ∈ pm_tbl := pm_m (List.mem_append_left _ (List.mem_of_getElem? (i := 23) rfl)) rfl
set_option maxRecDepth 100000 in
theorem wm_24 : Cond.selects RX10 yX10_left yX10_left ∈ pm_tbl := pm_m (List.mem_append_left _ (List.mem_of_getElem? (i := 24) rfl)) rfl
set_option maxRecDepth 100000 in
theorem wm_25 : Cond.selects RX10 yX10_places yX10_places ∈ pm_tbl := pm_m (List.mem_append_left _ (List.mem_of_getElem? (i := 25) rfl)) rfl
set_option maxRecDepth 100000 in
theorem wm_26 : Cond.selects RX10 yX10_first yX10_first ∈ pm_tbl := pm_m (List.mem_append_left _ (List.mem_of_getElem? (i := 26) rfl)) rfl
set_option maxRecDepth 100000 in
theorem wm_27 : Cond.selects RX10 yX10_setOdds yX10_setOdds ∈ pm_tbl := pm_m (List.mem_append_left _ (List.mem_of_getElem? (i := 27) rfl)) rfl
set_option maxRecDepth 100000 in
theorem wm_28 : Cond.selects RX10 yX10_clearOdds yX10_clearOdds ∈ pm_tbl := pm_m (List.mem_append_left _ (List.mem_of_getElem? (i := 28) rfl)) rfl
set_option maxRecDepth 100000 in
theorem wm_29 : Cond.selects RX10 yX10_partAll yX10_partAll ∈ pm_tbl := pm_m (List.mem_append_left _ (List.mem_of_getElem? (i := 29) rfl)) rfl
set_option maxRecDepth 100000 in
theorem wm_30 : Cond.selects RX10 yX10_add yX10_add ∈ pm_tbl := pm_m (List.mem_append_left _ (List.mem_of_getElem? (i := 30) rfl)) rfl
set_option maxRecDepth 100000 in
theorem wm_31 : Cond.selects RX10 yX10_tell yX10_tell ∈ pm_tbl := pm_m (List.mem_append_left _ (List.mem_of_getElem? (i := 31) rfl)) rfl
set_option maxRecDepth 100000 in
theorem wm_32 : Cond.selects RX10 yX10_draws yX10_draws ∈ pm_tbl := pm_m (List.mem_append_left _ (List.mem_of_getElem? (i := 32) rfl)) rfl
set_option maxRecDepth 100000 in
theorem wm_33 : Cond.selects RX10 yX10_under yX10_under ∈ pm_tbl := pm_m (List.mem_append_left _ (List.mem_of_getElem? (i := 33) rfl)) rfl
set_option maxRecDepth 100000 in
theorem wm_34 : Cond.selects RX10 yX10_numberOf yX10_numberOf ∈ pm_tbl := pm_m (List.mem_append_left _ (List.mem_of_getElem? (i := 34) rfl)) rfl
set_option maxRecDepth 100000 in
theorem wm_35 : Cond.selects RX10 yX10_looked yX10_looked ∈ pm_tbl := pm_m (List.mem_append_left _ (List.mem_of_getElem? (i := 35) rfl)) rfl
set_option maxRecDepth 100000 in
theorem wm_36 : Cond.selects RX10 yX10_misfitsOf yX10_misfitsOf ∈ pm_tbl := pm_m (List.mem_append_left _ (List.mem_of_getElem? (i := 36) rfl)) rfl
set_option maxRecDepth 100000 in
theorem wm_37 : Cond.selects RX10 yX10_leaf yX10_leaf ∈ pm_tbl := pm_m (List.mem_append_left _ (List.mem_of_getElem? (i := 37) rfl)) rfl
set_option maxRecDepth 100000 in
theorem wm_38 : Cond.selects RX10 yX10_swap yX10_swap ∈ pm_tbl := pm_m (List.mem_append_left _ (List.mem_of_getElem? (i := 38) rfl)) rfl
set_option maxRecDepth 100000 in
theorem wm_39 : Cond.selects RX10 yX10_counts yX10_counts ∈ pm_tbl := pm_m (List.mem_append_left _ (List.mem_of_getElem? (i := 39) rfl)) rfl
set_option maxRecDepth 100000 in
theorem wm_40 : Cond.selects RX10 yX10_offOf yX10_offOf ∈ pm_tbl := pm_m (List.mem_append_left _ (List.mem_of_getElem? (i := 40) rfl)) rfl
set_option maxRecDepth 100000 in
theorem wm_41 : Cond.selects RX10 yX10_setShares yX10_setShares ∈ pm_tbl := pm_m (List.mem_append_left _ (List.mem_of_getElem? (i := 41) rfl)) rfl
set_option maxRecDepth 100000 in
theorem wm_42 : Cond.initialized RL ∈ pm_tbl := pm_m (lw_in1 (List.mem_of_getElem? (i := 0) rfl)) rfl
set_option maxRecDepth 100000 in
theorem wm_43 : Cond.initialized RX9 ∈ pm_tbl := pm_m (lw_in1 (List.mem_of_getElem? (i := 1) rfl)) rfl
set_option maxRecDepth 100000 in
theorem wm_44 : Cond.initialized RX3 ∈ pm_tbl := pm_m (lw_in1 (List.mem_of_getElem? (i := 2) rfl)) rfl
set_option maxRecDepth 100000 in
theorem wm_45 : Cond.initialized RJ7 ∈ pm_tbl := pm_m (lw_in1 (List.mem_of_getElem? (i := 3) rfl)) rfl
set_option maxRecDepth 100000 in
theorem wm_46 : Cond.initialized RX8 ∈ pm_tbl := pm_m (lw_in1 (List.mem_of_getElem? (i := 4) rfl)) rfl
set_option maxRecDepth 100000 in
theorem wm_47 : Cond.initialized RX5 ∈ pm_tbl := pm_m (lw_in1 (List.mem_of_getElem? (i := 5) rfl)) rfl
set_option maxRecDepth 100000 in
theorem wm_48 : Cond.initialized RX4 ∈ pm_tbl := pm_m (lw_in1 (List.mem_of_getElem? (i := 6) rfl)) rfl
set_option maxRecDepth 100000 in
theorem wm_49 : Cond.initialized RX0 ∈ pm_tbl := pm_m (lw_in1 (List.mem_of_getElem? (i := 7) rfl)) rfl
set_option maxRecDepth 100000 in
theorem wm_50 : Cond.initialized RX10 ∈ pm_tbl := pm_m (lw_in1 (List.mem_of_getElem? (i := 8) rfl)) rfl
set_option maxRecDepth 100000 in
theorem wm_51 : Cond.initialized RX1 ∈ pm_tbl := pm_m (lw_in1 (List.mem_of_getElem? (i := 9) rfl)) rfl
set_option maxRecDepth 100000 in
theorem wm_52 : Cond.initialized RX2 ∈ pm_tbl := pm_m (lw_in1 (List.mem_of_getElem? (i := 10) rfl)) rfl
set_option maxRecDepth 100000 in
theorem wm_53 : Cond.initialized RX6 ∈ pm_tbl := pm_m (lw_in1 (List.mem_of_getElem? (i := 11) rfl)) rfl
set_option maxRecDepth 100000 in
theorem wm_54 : Cond.initialized RX7 ∈ pm_tbl := pm_m (lw_in1 (List.mem_of_getElem? (i := 12) rfl)) rfl
set_option maxRecDepth 100000 in
theorem wm_55 : Cond.initialized RJ10 ∈ pm_tbl := pm_m (lw_in1 (List.mem_of_getElem? (i := 13) rfl)) rfl
set_option maxRecDepth 100000 in
theorem wm_56 : Cond.initialized RJ13 ∈ pm_tbl := pm_m (lw_in1 (List.mem_of_getElem? (i := 14) rfl)) rfl
set_option maxRecDepth 100000 in
theorem wm_57 : Cond.initialized RJ9 ∈ pm_tbl := pm_m (lw_in1 (List.mem_of_getElem? (i := 15) rfl)) rfl
set_option maxRecDepth 100000 in
theorem wm_58 : Cond.classLink RL 7 RX9 ∈ pm_tbl := pm_m (lw_in1 (List.mem_of_getElem? (i := 16) rfl)) rfl
set_option maxRecDepth 100000 in
theorem wm_59 : Cond.instantiable RX9 15 ∈ pm_tbl := pm_m (lw_in1 (List.mem_of_getElem? (i := 17) rfl)) rfl
set_option maxRecDepth 100000 in
theorem wm_60 : Cond.methodLink RL 9 yX9_init ∈ pm_tbl := pm_m (lw_in1 (List.mem_of_getElem? (i := 18) rfl)) rfl
set_option maxRecDepth 100000 in
theorem wm_61 : Cond.instanceMethod yX9_init ∈ pm_tbl := pm_m (lw_in1 (List.mem_of_getElem? (i := 19) rfl)) rfl
set_option maxRecDepth 100000 in
theorem wm_62 : Cond.code yX9_init cX9_init 2 none ∈ pm_tbl := pm_m (lw_in1 (List.mem_of_getElem? (i := 20) rfl)) rfl
set_option maxRecDepth 100000 in
theorem wm_63 : Cond.methodLink RX9 3 ⟨"java/lang/Object", "<init>", "()V"⟩ ∈ pm_tbl := pm_m (lw_in1 (List.mem_of_getElem? (i := 21) rfl)) rfl
set_option maxRecDepth 100000 in
theorem wm_64 : Cond.instanceMethod ⟨"java/lang/Object", "<init>", "()V"⟩ ∈ pm_tbl := pm_m (lw_in1 (List.mem_of_getElem? (i := 22) rfl)) rfl
set_option maxRecDepth 100000 in
theorem wm_65 : Cond.code Lib.objectInit ⟨#[0xb1]⟩ 1 none ∈ pm_tbl := pm_m (lw_in1 (List.mem_of_getElem? (i := 23) rfl)) rfl
set_option maxRecDepth 100000 in
theorem wm_66 : Cond.classLink RX9 9 RX1 ∈ pm_tbl := pm_m (lw_in1 (List.mem_of_getElem? (i := 24) rfl)) rfl
set_option maxRecDepth 100000 in
theorem wm_67 : Cond.arrayOver (.object RX1) ∈ pm_tbl := pm_m (lw_in1 (List.mem_of_getElem? (i := 25) rfl)) rfl
set_option maxRecDepth 100000 in
theorem wm_68 : Cond.classLink RX9 19 RX3 ∈ pm_tbl := pm_m (lw_in1 (List.mem_of_getElem? (i := 26) rfl)) rfl
set_option maxRecDepth 100000 in
theorem wm_69 : Cond.arrayOver (.object RX3) ∈ pm_tbl := pm_m (lw_in1 (List.mem_of_getElem? (i := 27) rfl)) rfl
set_option maxRecDepth 100000 in
theorem wm_70 : Cond.instantiable RX3 1 ∈ pm_tbl := pm_m (lw_in1 (List.mem_of_getElem? (i := 28) rfl)) rfl
set_option maxRecDepth 100000 in
theorem wm_71 : Cond.methodLink RX9 25 yX3_init ∈ pm_tbl := pm_m (lw_in1 (List.mem_of_getElem? (i := 29) rfl)) rfl
set_option maxRecDepth 100000 in
theorem wm_72 : Cond.instanceMethod yX3_init ∈ pm_tbl := pm_m (lw_in1 (List.mem_of_getElem? (i := 30) rfl)) rfl
set_option maxRecDepth 100000 in
theorem wm_73 : Cond.code yX3_init cX3_init 1 none ∈ pm_tbl := pm_m (lw_in1 (List.mem_of_getElem? (i := 31) rfl)) rfl
set_option maxRecDepth 100000 in
theorem wm_74 : Cond.methodLink RX3 3 ⟨"java/lang/Object", "<init>", "()V"⟩ ∈ pm_tbl := pm_m (lw_in1 (List.mem_of_getElem? (i := 32) rfl)) rfl
set_option maxRecDepth 100000 in
theorem wm_75 : Cond.methodLink RX3 15 yJ7_fill_53178 ∈ pm_tbl := pm_m (lw_in1 (List.mem_of_getElem? (i := 33) rfl)) rfl
set_option maxRecDepth 100000 in
theorem wm_76 : Cond.static yJ7_fill_53178 ∈ pm_tbl := pm_m (lw_in1 (List.mem_of_getElem? (i := 34) rfl)) rfl
set_option maxRecDepth 100000 in
theorem wm_77 : Cond.code yJ7_fill_53178 cJ7_fill_53178 4 none ∈ pm_tbl := pm_m (lw_in1 (List.mem_of_getElem? (i := 35) rfl)) rfl
set_option maxRecDepth 100000 in
theorem wm_78 : Cond.fieldLink RX3 9 RX3 "lines" "[I" ∈ pm_tbl := pm_m (lw_in1 (List.mem_of_getElem? (i := 36) rfl)) rfl
set_option maxRecDepth 100000 in
theorem wm_79 : Cond.fieldLinkNest RX9 162 RX3 "lines" "[I" RX9 ∈ pm_tbl := pm_m (lw_in1 (List.mem_of_getElem? (i := 37) rfl)) rfl
set_option maxRecDepth 100000 in
theorem wm_83 : Cond.arrayClass .int ∈ pm_tbl := pm_m (lw_in1 (List.mem_of_getElem? (i := 41) rfl)) rfl
set_option maxRecDepth 100000 in
theorem wm_84 : Cond.classLink RX9 30 RX0 ∈ pm_tbl := pm_m (lw_in1 (List.mem_of_getElem? (i := 42) rfl)) rfl
set_option maxRecDepth 100000 in
theorem wm_85 : Cond.arrayOver (.object RX0) ∈ pm_tbl := pm_m (lw_in1 (List.mem_of_getElem? (i := 43) rfl)) rfl
set_option maxRecDepth 100000 in
theorem wm_86 : Cond.classLink RX9 36 RX8 ∈ pm_tbl := pm_m (lw_in1 (List.mem_of_getElem? (i := 44) rfl)) rfl
set_option maxRecDepth 100000 in
theorem wm_87 : Cond.instantiable RX8 5 ∈ pm_tbl := pm_m (lw_in1 (List.mem_of_getElem? (i := 45) rfl)) rfl
set_option maxRecDepth 100000 in
theorem wm_88 : Cond.methodLinkNest RX9 38 yX8_init RX9 ∈ pm_tbl := pm_m (lw_in1 (List.mem_of_getElem? (i := 46) rfl)) rfl
set_option maxRecDepth 100000 in
theorem wm_89 : Cond.instanceMethod yX8_init ∈ pm_tbl := pm_m (lw_in1 (List.mem_of_getElem? (i := 47) rfl)) rfl
set_option maxRecDepth 100000 in
theorem wm_90 : Cond.code yX8_init cX8_init 1 none ∈ pm_tbl := pm_m (lw_in1 (List.mem_of_getElem? (i := 48) rfl)) rfl
set_option maxRecDepth 100000 in
theorem wm_91 : Cond.methodLink RX8 3 ⟨"java/lang/Object", "<init>", "()V"⟩ ∈ pm_tbl := pm_m (lw_in1 (List.mem_of_getElem? (i := 49) rfl)) rfl
set_option maxRecDepth 100000 in
theorem wm_92 : Cond.fieldLink RX8 9 RX8 "waiting" "[I" ∈ pm_tbl := pm_m (lw_in1 (List.mem_of_getElem? (i := 50) rfl)) rfl
set_option maxRecDepth 100000 in
theorem wm_93 : Cond.fieldLink RX8 15 RX8 "before" "[I" ∈ pm_tbl := pm_m (lw_in1 (List.mem_of_getElem? (i := 51) rfl)) rfl
set_option maxRecDepth 100000 in
theorem wm_94 : Cond.fieldLink RX8 18 RX8 "metBy" "[I" ∈ pm_tbl := pm_m (lw_in1 (List.mem_of_getElem? (i := 52) rfl)) rfl
set_option maxRecDepth 100000 in
theorem wm_95 : Cond.fieldLink RX8 21 RX8 "acts" "[I" ∈ pm_tbl := pm_m (lw_in1 (List.mem_of_getElem? (i := 53) rfl)) rfl
set_option maxRecDepth 100000 in
theorem wm_96 : Cond.fieldLink RX8 24 RX8 "actCount" "I" ∈ pm_tbl := pm_m (lw_in1 (List.mem_of_getElem? (i := 54) rfl)) rfl
set_option maxRecDepth 100000 in
theorem wm_108 : Cond.classLink RX9 43 RX5 ∈ pm_tbl := pm_m (lw_in1 (List.mem_of_getElem? (i := 66) rfl)) rfl
set_option maxRecDepth 100000 in
theorem wm_109 : Cond.instantiable RX5 1 ∈ pm_tbl := pm_m (lw_in1 (List.mem_of_getElem? (i := 67) rfl)) rfl
set_option maxRecDepth 100000 in
theorem wm_110 : Cond.methodLinkNest RX9 45 yX5_init RX9 ∈ pm_tbl := pm_m (lw_in1 (List.mem_of_getElem? (i := 68) rfl)) rfl
set_option maxRecDepth 100000 in
theorem wm_111 : Cond.instanceMethod yX5_init ∈ pm_tbl := pm_m (lw_in1 (List.mem_of_getElem? (i := 69) rfl)) rfl
set_option maxRecDepth 100000 in
theorem wm_112 : Cond.code yX5_init cX5_init 1 none ∈ pm_tbl := pm_m (lw_in1 (List.mem_of_getElem? (i := 70) rfl)) rfl
set_option maxRecDepth 100000 in
theorem wm_113 : Cond.methodLink RX5 1 ⟨"java/lang/Object", "<init>", "()V"⟩ ∈ pm_tbl := pm_m (lw_in1 (List.mem_of_getElem? (i := 71) rfl)) rfl
set_option maxRecDepth 100000 in
theorem wm_114 : Cond.fieldLink RX5 7 RX5 "s" "J" ∈ pm_tbl := pm_m (lw_in1 (List.mem_of_getElem? (i := 72) rfl)) rfl
set_option maxRecDepth 100000 in
theorem wm_118 : Cond.classLink RX9 50 RX4 ∈ pm_tbl := pm_m (lw_in1 (List.mem_of_getElem? (i := 76) rfl)) rfl
set_option maxRecDepth 100000 in
theorem wm_119 : Cond.instantiable RX4 4 ∈ pm_tbl := pm_m (lw_in1 (List.mem_of_getElem? (i := 77) rfl)) rfl
set_option maxRecDepth 100000 in
theorem wm_120 : Cond.methodLinkNest RX9 52 yX4_init RX9 ∈ pm_tbl := pm_m (lw_in1 (List.mem_of_getElem? (i := 78) rfl)) rfl
set_option maxRecDepth 100000 in
theorem wm_121 : Cond.instanceMethod yX4_init ∈ pm_tbl := pm_m (lw_in1 (List.mem_of_getElem? (i := 79) rfl)) rfl
set_option maxRecDepth 100000 in
theorem wm_122 : Cond.code yX4_init cX4_init 1 none ∈ pm_tbl := pm_m (lw_in1 (List.mem_of_getElem? (i := 80) rfl)) rfl
set_option maxRecDepth 100000 in
theorem wm_123 : Cond.methodLink RX4 3 ⟨"java/lang/Object", "<init>", "()V"⟩ ∈ pm_tbl := pm_m (lw_in1 (List.mem_of_getElem? (i := 81) rfl)) rfl
set_option maxRecDepth 100000 in
theorem wm_124 : Cond.fieldLink RX4 9 RX4 "weights" "[J" ∈ pm_tbl := pm_m (lw_in1 (List.mem_of_getElem? (i := 82) rfl)) rfl
set_option maxRecDepth 100000 in
theorem wm_125 : Cond.fieldLinkNest RX1 15 RX4 "weights" "[J" RX9 ∈ pm_tbl := pm_m (lw_in1 (List.mem_of_getElem? (i := 83) rfl)) rfl
set_option maxRecDepth 100000 in
theorem wm_126 : Cond.fieldLinkNest RX2 23 RX4 "weights" "[J" RX9 ∈ pm_tbl := pm_m (lw_in1 (List.mem_of_getElem? (i := 84) rfl)) rfl
set_option maxRecDepth 100000 in
theorem wm_127 : Cond.fieldLinkNest RX9 139 RX4 "weights" "[J" RX9 ∈ pm_tbl := pm_m (lw_in1 (List.mem_of_getElem? (i := 85) rfl)) rfl
set_option maxRecDepth 100000 in
theorem wm_128 : Cond.fieldLinkNest RX6 64 RX4 "weights" "[J" RX9 ∈ pm_tbl := pm_m (lw_in1 (List.mem_of_getElem? (i := 86) rfl)) rfl
set_option maxRecDepth 100000 in
theorem wm_129 : Cond.fieldLink RX4 15 RX4 "heaps" "[J" ∈ pm_tbl := pm_m (lw_in1 (List.mem_of_getElem? (i := 87) rfl)) rfl
set_option maxRecDepth 100000 in
theorem wm_130 : Cond.fieldLinkNest RX6 68 RX4 "heaps" "[J" RX9 ∈ pm_tbl := pm_m (lw_in1 (List.mem_of_getElem? (i := 88) rfl)) rfl
set_option maxRecDepth 100000 in
theorem wm_131 : Cond.fieldLink RX4 18 RX4 "nextHeaps" "[J" ∈ pm_tbl := pm_m (lw_in1 (List.mem_of_getElem? (i := 89) rfl)) rfl
set_option maxRecDepth 100000 in
theorem wm_132 : Cond.fieldLinkNest RX6 79 RX4 "nextHeaps" "[J" RX9 ∈ pm_tbl := pm_m (lw_in1 (List.mem_of_getElem? (i := 90) rfl)) rfl
set_option maxRecDepth 100000 in
theorem wm_133 : Cond.fieldLink RX4 21 RX4 "all" "J" ∈ pm_tbl := pm_m (lw_in1 (List.mem_of_getElem? (i := 91) rfl)) rfl
set_option maxRecDepth 100000 in
theorem wm_134 : Cond.fieldLinkNest RX9 143 RX4 "all" "J" RX9 ∈ pm_tbl := pm_m (lw_in1 (List.mem_of_getElem? (i := 92) rfl)) rfl
set_option maxRecDepth 100000 in
theorem wm_135 : Cond.fieldLinkNest RX6 75 RX4 "all" "J" RX9 ∈ pm_tbl := pm_m (lw_in1 (List.mem_of_getElem? (i := 93) rfl)) rfl
set_option maxRecDepth 100000 in
theorem wm_145 : Cond.arrayClass .long ∈ pm_tbl := pm_m (lw_in1 (List.mem_of_getElem? (i := 103) rfl)) rfl
set_option maxRecDepth 100000 in
theorem wm_146 : Cond.instantiable RX0 2 ∈ pm_tbl := pm_m (lw_in1 (List.mem_of_getElem? (i := 104) rfl)) rfl
set_option maxRecDepth 100000 in
theorem wm_147 : Cond.methodLinkNest RX9 80 yX0_init RX9 ∈ pm_tbl := pm_m (lw_in1 (List.mem_of_getElem? (i := 105) rfl)) rfl
set_option maxRecDepth 100000 in
theorem wm_148 : Cond.instanceMethod yX0_init ∈ pm_tbl := pm_m (lw_in1 (List.mem_of_getElem? (i := 106) rfl)) rfl
set_option maxRecDepth 100000 in
theorem wm_149 : Cond.code yX0_init cX0_init 1 none ∈ pm_tbl := pm_m (lw_in1 (List.mem_of_getElem? (i := 107) rfl)) rfl
set_option maxRecDepth 100000 in
theorem wm_150 : Cond.methodLink RX0 3 ⟨"java/lang/Object", "<init>", "()V"⟩ ∈ pm_tbl := pm_m (lw_in1 (List.mem_of_getElem? (i := 108) rfl)) rfl
set_option maxRecDepth 100000 in
theorem wm_151 : Cond.fieldLink RX0 9 RX0 "bytes" "[B" ∈ pm_tbl := pm_m (lw_in1 (List.mem_of_getElem? (i := 109) rfl)) rfl
set_option maxRecDepth 100000 in
theorem wm_152 : Cond.fieldLinkNest RX9 208 RX0 "bytes" "[B" RX9 ∈ pm_tbl := pm_m (lw_in1 (List.mem_of_getElem? (i := 110) rfl)) rfl
set_option maxRecDepth 100000 in
theorem wm_153 : Cond.fieldLink RX0 15 RX0 "size" "I" ∈ pm_tbl := pm_m (lw_in1 (List.mem_of_getElem? (i := 111) rfl)) rfl
set_option maxRecDepth 100000 in
theorem wm_154 : Cond.fieldLinkNest RX9 205 RX0 "size" "I" RX9 ∈ pm_tbl := pm_m (lw_in1 (List.mem_of_getElem? (i := 112) rfl)) rfl
set_option maxRecDepth 100000 in
theorem wm_160 : Cond.arrayClass .byte ∈ pm_tbl := pm_m (lw_in1 (List.mem_of_getElem? (i := 118) rfl)) rfl
set_option maxRecDepth 100000 in
theorem wm_161 : Cond.fieldLink RX9 11 RX9 "casters" "[LStalkRoom$Caster;" ∈ pm_tbl := pm_m (lw_in1 (List.mem_of_getElem? (i := 119) rfl)) rfl
set_option maxRecDepth 100000 in
theorem wm_162 : Cond.fieldLink RX9 15 RX9 "casterCount" "I" ∈ pm_tbl := pm_m (lw_in1 (List.mem_of_getElem? (i := 120) rfl)) rfl
set_option maxRecDepth 100000 in
theorem wm_163 : Cond.fieldLink RX9 21 RX9 "figures" "[LStalkRoom$Figure;" ∈ pm_tbl := pm_m (lw_in1 (List.mem_of_getElem? (i := 121) rfl)) rfl
set_option maxRecDepth 100000 in
theorem wm_164 : Cond.fieldLink RX9 26 RX9 "spare" "LStalkRoom$Figure;" ∈ pm_tbl := pm_m (lw_in1 (List.mem_of_getElem? (i := 122) rfl)) rfl
set_option maxRecDepth 100000 in
theorem wm_165 : Cond.fieldLink RX9 32 RX9 "rows" "[LStalkRoom$ByteRow;" ∈ pm_tbl := pm_m (lw_in1 (List.mem_of_getElem? (i := 123) rfl)) rfl
set_option maxRecDepth 100000 in
theorem wm_166 : Cond.fieldLink RX9 39 RX9 "finder" "LStalkRoom$WayFinder;" ∈ pm_tbl := pm_m (lw_in1 (List.mem_of_getElem? (i := 124) rfl)) rfl
set_option maxRecDepth 100000 in
theorem wm_167 : Cond.fieldLink RX9 46 RX9 "seed" "LStalkRoom$Seed;" ∈ pm_tbl := pm_m (lw_in1 (List.mem_of_getElem? (i := 125) rfl)) rfl
set_option maxRecDepth 100000 in
theorem wm_168 : Cond.fieldLink RX9 53 RX9 "odds" "LStalkRoom$Odds;" ∈ pm_tbl := pm_m (lw_in1 (List.mem_of_getElem? (i := 126) rfl)) rfl
set_option maxRecDepth 100000 in
theorem wm_169 : Cond.fieldLink RX9 57 RX9 "parts" "[I" ∈ pm_tbl := pm_m (lw_in1 (List.mem_of_getElem? (i := 127) rfl)) rfl
set_option maxRecDepth 100000 in
theorem wm_170 : Cond.fieldLink RX9 61 RX9 "otherParts" "[I" ∈ pm_tbl := pm_m (lw_in1 (List.mem_of_getElem? (i := 128) rfl)) rfl
set_option maxRecDepth 100000 in
theorem wm_171 : Cond.fieldLink RX9 64 RX9 "findingTimes" "[I" ∈ pm_tbl := pm_m (lw_in1 (List.mem_of_getElem? (i := 129) rfl)) rfl
set_option maxRecDepth 100000 in
theorem wm_172 : Cond.fieldLink RX9 67 RX9 "latestFinding" "I" ∈ pm_tbl := pm_m (lw_in1 (List.mem_of_getElem? (i := 130) rfl)) rfl
set_option maxRecDepth 100000 in
theorem wm_173 : Cond.fieldLink RX9 70 RX9 "lastAsked" "J" ∈ pm_tbl := pm_m (lw_in1 (List.mem_of_getElem? (i := 131) rfl)) rfl
set_option maxRecDepth 100000 in
theorem wm_174 : Cond.fieldLink RX9 74 RX9 "fractionUpper" "J" ∈ pm_tbl := pm_m (lw_in1 (List.mem_of_getElem? (i := 132) rfl)) rfl
set_option maxRecDepth 100000 in
theorem wm_175 : Cond.fieldLink RX9 77 RX9 "fractionLower" "J" ∈ pm_tbl := pm_m (lw_in1 (List.mem_of_getElem? (i := 133) rfl)) rfl
set_option maxRecDepth 100000 in
theorem wm_207 : Cond.methodLink RL 13 yX9_caster ∈ pm_tbl := pm_m (lw_in1 (List.mem_of_getElem? (i := 165) rfl)) rfl
set_option maxRecDepth 100000 in
theorem wm_208 : Cond.instanceMethod yX9_caster ∈ pm_tbl := pm_m (lw_in1 (List.mem_of_getElem? (i := 166) rfl)) rfl
set_option maxRecDepth 100000 in
theorem wm_209 : Cond.selects RX9 yX9_caster yX9_caster ∈ pm_tbl := pm_m (lw_in1 (List.mem_of_getElem? (i := 167) rfl)) rfl
set_option maxRecDepth 100000 in
theorem wm_210 : Cond.code yX9_caster cX9_caster 2 (some .int) ∈ pm_tbl := pm_m (lw_in1 (List.mem_of_getElem? (i := 168) rfl)) rfl
set_option maxRecDepth 100000 in
theorem wm_211 : Cond.classLink RX9 81 RX2 ∈ pm_tbl := pm_m (lw_in1 (List.mem_of_getElem? (i := 169) rfl)) rfl
set_option maxRecDepth 100000 in
theorem wm_212 : Cond.instantiable RX2 0 ∈ pm_tbl := pm_m (lw_in1 (List.mem_of_getElem? (i := 170) rfl)) rfl
set_option maxRecDepth 100000 in
theorem wm_213 : Cond.methodLinkNest RX9 83 yX2_init RX9 ∈ pm_tbl := pm_m (lw_in1 (List.mem_of_getElem? (i := 171) rfl)) rfl
set_option maxRecDepth 100000 in
theorem wm_214 : Cond.instanceMethod yX2_init ∈ pm_tbl := pm_m (lw_in1 (List.mem_of_getElem? (i := 172) rfl)) rfl
set_option maxRecDepth 100000 in
theorem wm_215 : Cond.code yX2_init cX2_init 1 none ∈ pm_tbl := pm_m (lw_in1 (List.mem_of_getElem? (i := 173) rfl)) rfl
set_option maxRecDepth 100000 in
theorem wm_216 : Cond.methodLinkNest RX2 3 yX1_init RX9 ∈ pm_tbl := pm_m (lw_in1 (List.mem_of_getElem? (i := 174) rfl)) rfl
set_option maxRecDepth 100000 in
theorem wm_217 : Cond.instanceMethod yX1_init ∈ pm_tbl := pm_m (lw_in1 (List.mem_of_getElem? (i := 175) rfl)) rfl
set_option maxRecDepth 100000 in
theorem wm_218 : Cond.code yX1_init cX1_init 1 none ∈ pm_tbl := pm_m (lw_in1 (List.mem_of_getElem? (i := 176) rfl)) rfl
set_option maxRecDepth 100000 in
theorem wm_219 : Cond.methodLink RX1 3 ⟨"java/lang/Object", "<init>", "()V"⟩ ∈ pm_tbl := pm_m (lw_in1 (List.mem_of_getElem? (i := 177) rfl)) rfl
set_option maxRecDepth 100000 in
theorem wm_221 : Cond.instantiable RX1 0 ∈ pm_tbl := pm_m (lw_in1 (List.mem_of_getElem? (i := 179) rfl)) rfl
set_option maxRecDepth 100000 in
theorem wm_222 : Cond.methodLinkNest RX9 84 yX1_init RX9 ∈ pm_tbl := pm_m (lw_in1 (List.mem_of_getElem? (i := 180) rfl)) rfl
set_option maxRecDepth 100000 in
theorem wm_224 : Cond.methodLink RX9 85 yX9_keep ∈ pm_tbl := pm_m (lw_in1 (List.mem_of_getElem? (i := 182) rfl)) rfl
set_option maxRecDepth 100000 in
theorem wm_226 : Cond.instanceMethod yX9_keep ∈ pm_tbl := pm_m (lw_in1 (List.mem_of_getElem? (i := 184) rfl)) rfl
set_option maxRecDepth 100000 in
theorem wm_227 : Cond.code yX9_keep cX9_keep 3 (some .int) ∈ pm_tbl := pm_m (lw_in1 (List.mem_of_getElem? (i := 185) rfl)) rfl
set_option maxRecDepth 100000 in
theorem wm_228 : Cond.methodLink RL 18 yX9_stalks ∈ pm_tbl := pm_m (lw_in1 (List.mem_of_getElem? (i := 186) rfl)) rfl
set_option maxRecDepth 100000 in
theorem wm_229 : Cond.instanceMethod yX9_stalks ∈ pm_tbl := pm_m (lw_in1 (List.mem_of_getElem? (i := 187) rfl)) rfl
set_option maxRecDepth 100000 in
theorem wm_230 : Cond.selects RX9 yX9_stalks yX9_stalks ∈ pm_tbl := pm_m (lw_in1 (List.mem_of_getElem? (i := 188) rfl)) rfl
set_option maxRecDepth 100000 in
theorem wm_231 : Cond.code yX9_stalks cX9_stalks 4 (some .int) ∈ pm_tbl := pm_m (lw_in1 (List.mem_of_getElem? (i := 189) rfl)) rfl
set_option maxRecDepth 100000 in
theorem wm_232 : Cond.methodLink RX9 89 yX9_isBundle ∈ pm_tbl := pm_m (lw_in1 (List.mem_of_getElem? (i := 190) rfl)) rfl
set_option maxRecDepth 100000 in
theorem wm_233 : Cond.static yX9_isBundle ∈ pm_tbl := pm_m (lw_in1 (List.mem_of_getElem? (i := 191) rfl)) rfl
set_option maxRecDepth 100000 in
theorem wm_234 : Cond.code yX9_isBundle cX9_isBundle 2 (some .boolean) ∈ pm_tbl := pm_m (lw_in1 (List.mem_of_getElem? (i := 192) rfl)) rfl
set_option maxRecDepth 100000 in
theorem wm_235 : Cond.classLink RX9 93 RX6 ∈ pm_tbl := pm_m (lw_in1 (List.mem_of_getElem? (i := 193) rfl)) rfl
set_option maxRecDepth 100000 in
theorem wm_236 : Cond.instantiable RX6 3 ∈ pm_tbl := pm_m (lw_in1 (List.mem_of_getElem? (i := 194) rfl)) rfl
set_option maxRecDepth 100000 in
theorem wm_237 : Cond.methodLink RX9 95 yX6_init ∈ pm_tbl := pm_m (lw_in1 (List.mem_of_getElem? (i := 195) rfl)) rfl
set_option maxRecDepth 100000 in
theorem wm_238 : Cond.instanceMethod yX6_init ∈ pm_tbl := pm_m (lw_in1 (List.mem_of_getElem? (i := 196) rfl)) rfl
set_option maxRecDepth 100000 in
theorem wm_239 : Cond.code yX6_init cX6_init 4 none ∈ pm_tbl := pm_m (lw_in1 (List.mem_of_getElem? (i := 197) rfl)) rfl
set_option maxRecDepth 100000 in
theorem wm_240 : Cond.methodLinkNest RX6 3 yX1_init RX9 ∈ pm_tbl := pm_m (lw_in1 (List.mem_of_getElem? (i := 198) rfl)) rfl
set_option maxRecDepth 100000 in
theorem wm_241 : Cond.fieldLink RX6 9 RX6 "bundle" "I" ∈ pm_tbl := pm_m (lw_in1 (List.mem_of_getElem? (i := 199) rfl)) rfl
set_option maxRecDepth 100000 in
theorem wm_242 : Cond.fieldLinkNest RX9 111 RX6 "bundle" "I" RX9 ∈ pm_tbl := pm_m (lw_in1 (List.mem_of_getElem? (i := 200) rfl)) rfl
set_option maxRecDepth 100000 in
theorem wm_243 : Cond.fieldLink RX6 15 RX6 "by" "I" ∈ pm_tbl := pm_m (lw_in1 (List.mem_of_getElem? (i := 201) rfl)) rfl
set_option maxRecDepth 100000 in
theorem wm_244 : Cond.fieldLink RX6 18 RX6 "fingers" "I" ∈ pm_tbl := pm_m (lw_in1 (List.mem_of_getElem? (i := 202) rfl)) rfl
set_option maxRecDepth 100000 in
theorem wm_252 : Cond.methodLink RL 23 yX9_thumb ∈ pm_tbl := pm_m (lw_in1 (List.mem_of_getElem? (i := 210) rfl)) rfl
set_option maxRecDepth 100000 in
theorem wm_253 : Cond.instanceMethod yX9_thumb ∈ pm_tbl := pm_m (lw_in1 (List.mem_of_getElem? (i := 211) rfl)) rfl
set_option maxRecDepth 100000 in
theorem wm_254 : Cond.selects RX9 yX9_thumb yX9_thumb ∈ pm_tbl := pm_m (lw_in1 (List.mem_of_getElem? (i := 212) rfl)) rfl
set_option maxRecDepth 100000 in
theorem wm_255 : Cond.code yX9_thumb cX9_thumb 6 (some .int) ∈ pm_tbl := pm_m (lw_in1 (List.mem_of_getElem? (i := 213) rfl)) rfl
set_option maxRecDepth 100000 in
theorem wm_256 : Cond.classLink RX9 98 RX7 ∈ pm_tbl := pm_m (lw_in1 (List.mem_of_getElem? (i := 214) rfl)) rfl
set_option maxRecDepth 100000 in
theorem wm_257 : Cond.instantiable RX7 5 ∈ pm_tbl := pm_m (lw_in1 (List.mem_of_getElem? (i := 215) rfl)) rfl
set_option maxRecDepth 100000 in
theorem wm_258 : Cond.methodLink RX9 100 yX7_init ∈ pm_tbl := pm_m (lw_in1 (List.mem_of_getElem? (i := 216) rfl)) rfl
set_option maxRecDepth 100000 in
theorem wm_259 : Cond.instanceMethod yX7_init ∈ pm_tbl := pm_m (lw_in1 (List.mem_of_getElem? (i := 217) rfl)) rfl
set_option maxRecDepth 100000 in
theorem wm_260 : Cond.code yX7_init cX7_init 6 none ∈ pm_tbl := pm_m (lw_in1 (List.mem_of_getElem? (i := 218) rfl)) rfl
set_option maxRecDepth 100000 in
theorem wm_261 : Cond.methodLink RX7 3 yX6_init ∈ pm_tbl := pm_m (lw_in1 (List.mem_of_getElem? (i := 219) rfl)) rfl
set_option maxRecDepth 100000 in
theorem wm_262 : Cond.fieldLink RX7 9 RX7 "lo" "I" ∈ pm_tbl := pm_m (lw_in1 (List.mem_of_getElem? (i := 220) rfl)) rfl
set_option maxRecDepth 100000 in
theorem wm_263 : Cond.fieldLink RX7 15 RX7 "hi" "I" ∈ pm_tbl := pm_m (lw_in1 (List.mem_of_getElem? (i := 221) rfl)) rfl
set_option maxRecDepth 100000 in
theorem wm_272 : Cond.methodLink RL 28 yX9_told ∈ pm_tbl := pm_m (lw_in1 (List.mem_of_getElem? (i := 230) rfl)) rfl
set_option maxRecDepth 100000 in
theorem wm_273 : Cond.instanceMethod yX9_told ∈ pm_tbl := pm_m (lw_in1 (List.mem_of_getElem? (i := 231) rfl)) rfl
set_option maxRecDepth 100000 in
theorem wm_274 : Cond.selects RX9 yX9_told yX9_told ∈ pm_tbl := pm_m (lw_in1 (List.mem_of_getElem? (i := 232) rfl)) rfl
set_option maxRecDepth 100000 in
theorem wm_275 : Cond.code yX9_told cX9_told 4 (some .int) ∈ pm_tbl := pm_m (lw_in1 (List.mem_of_getElem? (i := 233) rfl)) rfl
set_option maxRecDepth 100000 in
theorem wm_276 : Cond.methodLink RX9 103 yX9_casterAt ∈ pm_tbl := pm_m (lw_in1 (List.mem_of_getElem? (i := 234) rfl)) rfl
set_option maxRecDepth 100000 in
theorem wm_278 : Cond.instanceMethod yX9_casterAt ∈ pm_tbl := pm_m (lw_in1 (List.mem_of_getElem? (i := 236) rfl)) rfl
set_option maxRecDepth 100000 in
theorem wm_279 : Cond.code yX9_casterAt cX9_casterAt 2 (some (.object "StalkRoom$Caster")) ∈ pm_tbl := pm_m (lw_in1 (List.mem_of_getElem? (i := 237) rfl)) rfl
set_option maxRecDepth 100000 in
theorem wm_280 : Cond.methodLink RX9 107 yX1_tell ∈ pm_tbl := pm_m (lw_in1 (List.mem_of_getElem? (i := 238) rfl)) rfl
set_option maxRecDepth 100000 in
theorem wm_281 : Cond.instanceMethod yX1_tell ∈ pm_tbl := pm_m (lw_in1 (List.mem_of_getElem? (i := 239) rfl)) rfl
set_option maxRecDepth 100000 in
theorem wm_282 : Cond.selects RX1 yX1_tell yX1_tell ∈ pm_tbl := pm_m (lw_in2 (List.mem_of_getElem? (i := 0) rfl)) rfl
set_option maxRecDepth 100000 in
theorem wm_283 : Cond.sameMethod RX1 RX1 "tell" "(I)I" ∈ pm_tbl := pm_m (lw_in2 (List.mem_of_getElem? (i := 1) rfl)) rfl
set_option maxRecDepth 100000 in
theorem wm_284 : Cond.selects RX2 yX1_tell yX2_tell ∈ pm_tbl := pm_m (lw_in2 (List.mem_of_getElem? (i := 2) rfl)) rfl
set_option maxRecDepth 100000 in
theorem wm_285 : Cond.instanceMethod yX2_tell ∈ pm_tbl := pm_m (lw_in2 (List.mem_of_getElem? (i := 3) rfl)) rfl
set_option maxRecDepth 100000 in
theorem wm_286 : Cond.code yX2_tell cX2_tell 2 (some .int) ∈ pm_tbl := pm_m (lw_in2 (List.mem_of_getElem? (i := 4) rfl)) rfl
set_option maxRecDepth 100000 in
theorem wm_287 : Cond.selects RX6 yX1_tell yX6_tell ∈ pm_tbl := pm_m (lw_in2 (List.mem_of_getElem? (i := 5) rfl)) rfl
set_option maxRecDepth 100000 in
theorem wm_288 : Cond.instanceMethod yX6_tell ∈ pm_tbl := pm_m (lw_in2 (List.mem_of_getElem? (i := 6) rfl)) rfl
set_option maxRecDepth 100000 in
theorem wm_289 : Cond.code yX6_tell cX6_tell 2 (some .int) ∈ pm_tbl := pm_m (lw_in2 (List.mem_of_getElem? (i := 7) rfl)) rfl
set_option maxRecDepth 100000 in
theorem wm_290 : Cond.methodLink RX6 21 yX6_kind ∈ pm_tbl := pm_m (lw_in2 (List.mem_of_getElem? (i := 8) rfl)) rfl
set_option maxRecDepth 100000 in
theorem wm_291 : Cond.instanceMethod yX6_kind ∈ pm_tbl := pm_m (lw_in2 (List.mem_of_getElem? (i := 9) rfl)) rfl
set_option maxRecDepth 100000 in
theorem wm_292 : Cond.selects RX6 yX6_kind yX6_kind ∈ pm_tbl := pm_m (lw_in2 (List.mem_of_getElem? (i := 10) rfl)) rfl
set_option maxRecDepth 100000 in
theorem wm_293 : Cond.sameMethod RX6 RX6 "kind" "()I" ∈ pm_tbl := pm_m (lw_in2 (List.mem_of_getElem? (i := 11) rfl)) rfl
set_option maxRecDepth 100000 in
theorem wm_294 : Cond.selects RX7 yX6_kind yX7_kind ∈ pm_tbl := pm_m (lw_in2 (List.mem_of_getElem? (i := 12) rfl)) rfl
set_option maxRecDepth 100000 in
theorem wm_295 : Cond.instanceMethod yX7_kind ∈ pm_tbl := pm_m (lw_in2 (List.mem_of_getElem? (i := 13) rfl)) rfl
set_option maxRecDepth 100000 in
theorem wm_296 : Cond.code yX7_kind cX7_kind 1 (some .int) ∈ pm_tbl := pm_m (lw_in2 (List.mem_of_getElem? (i := 14) rfl)) rfl
set_option maxRecDepth 100000 in
theorem wm_297 : Cond.code yX6_kind cX6_kind 1 (some .int) ∈ pm_tbl := pm_m (lw_in2 (List.mem_of_getElem? (i := 15) rfl)) rfl
set_option maxRecDepth 100000 in
theorem wm_298 : Cond.selects RX7 yX1_tell yX6_tell ∈ pm_tbl := pm_m (lw_in2 (List.mem_of_getElem? (i := 16) rfl)) rfl
set_option maxRecDepth 100000 in
theorem wm_299 : Cond.code yX1_tell cX1_tell 2 (some .int) ∈ pm_tbl := pm_m (lw_in2 (List.mem_of_getElem? (i := 17) rfl)) rfl
set_option maxRecDepth 100000 in
theorem wm_300 : Cond.methodLink RL 33 yX9_mark ∈ pm_tbl := pm_m (lw_in2 (List.mem_of_getElem? (i := 18) rfl)) rfl
set_option maxRecDepth 100000 in
theorem wm_301 : Cond.instanceMethod yX9_mark ∈ pm_tbl := pm_m (lw_in2 (List.mem_of_getElem? (i := 19) rfl)) rfl
set_option maxRecDepth 100000 in
theorem wm_302 : Cond.selects RX9 yX9_mark yX9_mark ∈ pm_tbl := pm_m (lw_in2 (List.mem_of_getElem? (i := 20) rfl)) rfl
set_option maxRecDepth 100000 in
theorem wm_303 : Cond.code yX9_mark cX9_mark 5 (some .int) ∈ pm_tbl := pm_m (lw_in2 (List.mem_of_getElem? (i := 21) rfl)) rfl
set_option maxRecDepth 100000 in
theorem wm_304 : Cond.methodLink RX9 114 yX6_leftOf ∈ pm_tbl := pm_m (lw_in2 (List.mem_of_getElem? (i := 22) rfl)) rfl
set_option maxRecDepth 100000 in
theorem wm_305 : Cond.instanceMethod yX6_leftOf ∈ pm_tbl := pm_m (lw_in2 (List.mem_of_getElem? (i := 23) rfl)) rfl
set_option maxRecDepth 100000 in
theorem wm_306 : Cond.selects RX6 yX6_leftOf yX6_leftOf ∈ pm_tbl := pm_m (lw_in2 (List.mem_of_getElem? (i := 24) rfl)) rfl
set_option maxRecDepth 100000 in
theorem wm_308 : Cond.selects RX7 yX6_leftOf yX6_leftOf ∈ pm_tbl := pm_m (lw_in2 (List.mem_of_getElem? (i := 26) rfl)) rfl
set_option maxRecDepth 100000 in
theorem wm_309 : Cond.code yX6_leftOf cX6_leftOf 4 (some .int) ∈ pm_tbl := pm_m (lw_in2 (List.mem_of_getElem? (i := 27) rfl)) rfl
set_option maxRecDepth 100000 in
theorem wm_310 : Cond.methodLink RX6 35 yX6_rest ∈ pm_tbl := pm_m (lw_in2 (List.mem_of_getElem? (i := 28) rfl)) rfl
set_option maxRecDepth 100000 in
theorem wm_312 : Cond.instanceMethod yX6_rest ∈ pm_tbl := pm_m (lw_in2 (List.mem_of_getElem? (i := 30) rfl)) rfl
set_option maxRecDepth 100000 in
theorem wm_313 : Cond.code yX6_rest cX6_rest 3 (some .int) ∈ pm_tbl := pm_m (lw_in2 (List.mem_of_getElem? (i := 31) rfl)) rfl
set_option maxRecDepth 100000 in
theorem wm_314 : Cond.methodLink RX9 118 ⟨"StalkRoom$Thumb", "placesAtFirst", "()I"⟩ ∈ pm_tbl := pm_m (lw_in2 (List.mem_of_getElem? (i := 32) rfl)) rfl
set_option maxRecDepth 100000 in
theorem wm_315 : Cond.sameMethod RX7 RX6 "placesAtFirst" "()I" ∈ pm_tbl := pm_m (lw_in2 (List.mem_of_getElem? (i := 33) rfl)) rfl
set_option maxRecDepth 100000 in
theorem wm_317 : Cond.selects RX7 ⟨"StalkRoom$Thumb", "placesAtFirst", "()I"⟩ yX6_placesAtFirst ∈ pm_tbl := pm_m (lw_in2 (List.mem_of_getElem? (i := 35) rfl)) rfl
set_option maxRecDepth 100000 in
theorem wm_318 : Cond.instanceMethod yX6_placesAtFirst ∈ pm_tbl := pm_m (lw_in2 (List.mem_of_getElem? (i := 36) rfl)) rfl
set_option maxRecDepth 100000 in
theorem wm_319 : Cond.code yX6_placesAtFirst cX6_placesAtFirst 1 (some .int) ∈ pm_tbl := pm_m (lw_in2 (List.mem_of_getElem? (i := 37) rfl)) rfl
set_option maxRecDepth 100000 in
theorem wm_320 : Cond.methodLink RX6 32 yX6_placesOf ∈ pm_tbl := pm_m (lw_in2 (List.mem_of_getElem? (i := 38) rfl)) rfl
set_option maxRecDepth 100000 in
theorem wm_321 : Cond.instanceMethod yX6_placesOf ∈ pm_tbl := pm_m (lw_in2 (List.mem_of_getElem? (i := 39) rfl)) rfl
set_option maxRecDepth 100000 in
theorem wm_322 : Cond.selects RX6 yX6_placesOf yX6_placesOf ∈ pm_tbl := pm_m (lw_in2 (List.mem_of_getElem? (i := 40) rfl)) rfl
set_option maxRecDepth 100000 in
theorem wm_324 : Cond.selects RX7 yX6_placesOf yX6_placesOf ∈ pm_tbl := pm_m (lw_in2 (List.mem_of_getElem? (i := 42) rfl)) rfl
set_option maxRecDepth 100000 in
theorem wm_325 : Cond.code yX6_placesOf cX6_placesOf 2 (some .int) ∈ pm_tbl := pm_m (lw_in2 (List.mem_of_getElem? (i := 43) rfl)) rfl
set_option maxRecDepth 100000 in
theorem wm_326 : Cond.methodLink RX6 25 yX6_lastPlace ∈ pm_tbl := pm_m (lw_in2 (List.mem_of_getElem? (i := 44) rfl)) rfl
set_option maxRecDepth 100000 in
theorem wm_327 : Cond.instanceMethod yX6_lastPlace ∈ pm_tbl := pm_m (lw_in2 (List.mem_of_getElem? (i := 45) rfl)) rfl
set_option maxRecDepth 100000 in
theorem wm_328 : Cond.selects RX6 yX6_lastPlace yX6_lastPlace ∈ pm_tbl := pm_m (lw_in2 (List.mem_of_getElem? (i := 46) rfl)) rfl
set_option maxRecDepth 100000 in
theorem wm_329 : Cond.sameMethod RX6 RX6 "lastPlace" "(I)I" ∈ pm_tbl := pm_m (lw_in2 (List.mem_of_getElem? (i := 47) rfl)) rfl
set_option maxRecDepth 100000 in
theorem wm_330 : Cond.selects RX7 yX6_lastPlace yX7_lastPlace ∈ pm_tbl := pm_m (lw_in2 (List.mem_of_getElem? (i := 48) rfl)) rfl
set_option maxRecDepth 100000 in
theorem wm_331 : Cond.instanceMethod yX7_lastPlace ∈ pm_tbl := pm_m (lw_in2 (List.mem_of_getElem? (i := 49) rfl)) rfl
set_option maxRecDepth 100000 in
theorem wm_332 : Cond.code yX7_lastPlace cX7_lastPlace 2 (some .int) ∈ pm_tbl := pm_m (lw_in2 (List.mem_of_getElem? (i := 50) rfl)) rfl
set_option maxRecDepth 100000 in
theorem wm_333 : Cond.code yX6_lastPlace cX6_lastPlace 2 (some .int) ∈ pm_tbl := pm_m (lw_in2 (List.mem_of_getElem? (i := 51) rfl)) rfl
set_option maxRecDepth 100000 in
theorem wm_334 : Cond.methodLink RX6 29 yX6_firstPlace ∈ pm_tbl := pm_m (lw_in2 (List.mem_of_getElem? (i := 52) rfl)) rfl
set_option maxRecDepth 100000 in
theorem wm_335 : Cond.instanceMethod yX6_firstPlace ∈ pm_tbl := pm_m (lw_in2 (List.mem_of_getElem? (i := 53) rfl)) rfl
set_option maxRecDepth 100000 in
theorem wm_336 : Cond.selects RX6 yX6_firstPlace yX6_firstPlace ∈ pm_tbl := pm_m (lw_in2 (List.mem_of_getElem? (i := 54) rfl)) rfl
set_option maxRecDepth 100000 in
theorem wm_337 : Cond.sameMethod RX6 RX6 "firstPlace" "(I)I" ∈ pm_tbl := pm_m (lw_in2 (List.mem_of_getElem? (i := 55) rfl)) rfl
set_option maxRecDepth 100000 in
theorem wm_338 : Cond.selects RX7 yX6_firstPlace yX7_firstPlace ∈ pm_tbl := pm_m (lw_in2 (List.mem_of_getElem? (i := 56) rfl)) rfl
set_option maxRecDepth 100000 in
theorem wm_339 : Cond.instanceMethod yX7_firstPlace ∈ pm_tbl := pm_m (lw_in2 (List.mem_of_getElem? (i := 57) rfl)) rfl
set_option maxRecDepth 100000 in
theorem wm_340 : Cond.code yX7_firstPlace cX7_firstPlace 2 (some .int) ∈ pm_tbl := pm_m (lw_in2 (List.mem_of_getElem? (i := 58) rfl)) rfl
set_option maxRecDepth 100000 in
theorem wm_341 : Cond.code yX6_firstPlace cX6_firstPlace 2 (some .int) ∈ pm_tbl := pm_m (lw_in2 (List.mem_of_getElem? (i := 59) rfl)) rfl
set_option maxRecDepth 100000 in
theorem wm_342 : Cond.methodLink RX9 122 yX9_found ∈ pm_tbl := pm_m (lw_in2 (List.mem_of_getElem? (i := 60) rfl)) rfl
set_option maxRecDepth 100000 in
theorem wm_344 : Cond.instanceMethod yX9_found ∈ pm_tbl := pm_m (lw_in2 (List.mem_of_getElem? (i := 62) rfl)) rfl
set_option maxRecDepth 100000 in
theorem wm_345 : Cond.code yX9_found cX9_found 2 (some .int) ∈ pm_tbl := pm_m (lw_in2 (List.mem_of_getElem? (i := 63) rfl)) rfl
set_option maxRecDepth 100000 in
theorem wm_346 : Cond.methodLink RL 37 yX9_part ∈ pm_tbl := pm_m (lw_in2 (List.mem_of_getElem? (i := 64) rfl)) rfl
set_option maxRecDepth 100000 in
theorem wm_347 : Cond.instanceMethod yX9_part ∈ pm_tbl := pm_m (lw_in2 (List.mem_of_getElem? (i := 65) rfl)) rfl
set_option maxRecDepth 100000 in
theorem wm_348 : Cond.selects RX9 yX9_part yX9_part ∈ pm_tbl := pm_m (lw_in2 (List.mem_of_getElem? (i := 66) rfl)) rfl
set_option maxRecDepth 100000 in
theorem wm_349 : Cond.code yX9_part cX9_part 7 (some .int) ∈ pm_tbl := pm_m (lw_in2 (List.mem_of_getElem? (i := 67) rfl)) rfl
set_option maxRecDepth 100000 in
theorem wm_350 : Cond.methodLink RX9 125 yX9_asStalks ∈ pm_tbl := pm_m (lw_in2 (List.mem_of_getElem? (i := 68) rfl)) rfl
set_option maxRecDepth 100000 in
theorem wm_351 : Cond.static yX9_asStalks ∈ pm_tbl := pm_m (lw_in2 (List.mem_of_getElem? (i := 69) rfl)) rfl
set_option maxRecDepth 100000 in
theorem wm_352 : Cond.code yX9_asStalks cX9_asStalks 2 (some (.object "StalkRoom$Stalks")) ∈ pm_tbl := pm_m (lw_in2 (List.mem_of_getElem? (i := 70) rfl)) rfl
set_option maxRecDepth 100000 in
theorem wm_353 : Cond.methodLink RX9 129 yX6_partedAt ∈ pm_tbl := pm_m (lw_in2 (List.mem_of_getElem? (i := 71) rfl)) rfl
set_option maxRecDepth 100000 in
theorem wm_354 : Cond.instanceMethod yX6_partedAt ∈ pm_tbl := pm_m (lw_in2 (List.mem_of_getElem? (i := 72) rfl)) rfl
set_option maxRecDepth 100000 in
theorem wm_355 : Cond.selects RX6 yX6_partedAt yX6_partedAt ∈ pm_tbl := pm_m (lw_in2 (List.mem_of_getElem? (i := 73) rfl)) rfl
set_option maxRecDepth 100000 in
theorem wm_357 : Cond.selects RX7 yX6_partedAt yX6_partedAt ∈ pm_tbl := pm_m (lw_in2 (List.mem_of_getElem? (i := 75) rfl)) rfl
set_option maxRecDepth 100000 in
theorem wm_358 : Cond.code yX6_partedAt cX6_partedAt 3 (some .int) ∈ pm_tbl := pm_m (lw_in2 (List.mem_of_getElem? (i := 76) rfl)) rfl
set_option maxRecDepth 100000 in
theorem wm_359 : Cond.methodLink RX6 38 yX6_leftOf ∈ pm_tbl := pm_m (lw_in2 (List.mem_of_getElem? (i := 77) rfl)) rfl
set_option maxRecDepth 100000 in
theorem wm_360 : Cond.methodLink RL 42 yX9_line ∈ pm_tbl := pm_m (lw_in2 (List.mem_of_getElem? (i := 78) rfl)) rfl
set_option maxRecDepth 100000 in
theorem wm_361 : Cond.instanceMethod yX9_line ∈ pm_tbl := pm_m (lw_in2 (List.mem_of_getElem? (i := 79) rfl)) rfl
set_option maxRecDepth 100000 in
theorem wm_362 : Cond.selects RX9 yX9_line yX9_line ∈ pm_tbl := pm_m (lw_in2 (List.mem_of_getElem? (i := 80) rfl)) rfl
set_option maxRecDepth 100000 in
theorem wm_363 : Cond.code yX9_line cX9_line 10 (some .int) ∈ pm_tbl := pm_m (lw_in2 (List.mem_of_getElem? (i := 81) rfl)) rfl
set_option maxRecDepth 100000 in
theorem wm_364 : Cond.methodLink RX9 132 yX6_lineOf ∈ pm_tbl := pm_m (lw_in2 (List.mem_of_getElem? (i := 82) rfl)) rfl
set_option maxRecDepth 100000 in
theorem wm_365 : Cond.instanceMethod yX6_lineOf ∈ pm_tbl := pm_m (lw_in2 (List.mem_of_getElem? (i := 83) rfl)) rfl
set_option maxRecDepth 100000 in
theorem wm_366 : Cond.selects RX6 yX6_lineOf yX6_lineOf ∈ pm_tbl := pm_m (lw_in2 (List.mem_of_getElem? (i := 84) rfl)) rfl
set_option maxRecDepth 100000 in
theorem wm_368 : Cond.selects RX7 yX6_lineOf yX6_lineOf ∈ pm_tbl := pm_m (lw_in2 (List.mem_of_getElem? (i := 86) rfl)) rfl
set_option maxRecDepth 100000 in
theorem wm_369 : Cond.code yX6_lineOf cX6_lineOf 2 (some .int) ∈ pm_tbl := pm_m (lw_in2 (List.mem_of_getElem? (i := 87) rfl)) rfl
set_option maxRecDepth 100000 in
theorem wm_370 : Cond.methodLink RL 47 yX9_odds ∈ pm_tbl := pm_m (lw_in2 (List.mem_of_getElem? (i := 88) rfl)) rfl
set_option maxRecDepth 100000 in
theorem wm_371 : Cond.instanceMethod yX9_odds ∈ pm_tbl := pm_m (lw_in2 (List.mem_of_getElem? (i := 89) rfl)) rfl
set_option maxRecDepth 100000 in
theorem wm_372 : Cond.selects RX9 yX9_odds yX9_odds ∈ pm_tbl := pm_m (lw_in2 (List.mem_of_getElem? (i := 90) rfl)) rfl
set_option maxRecDepth 100000 in
theorem wm_373 : Cond.code yX9_odds cX9_odds 4 (some .int) ∈ pm_tbl := pm_m (lw_in2 (List.mem_of_getElem? (i := 91) rfl)) rfl
set_option maxRecDepth 100000 in
theorem wm_374 : Cond.methodLink RX9 135 yX1_weigh ∈ pm_tbl := pm_m (lw_in2 (List.mem_of_getElem? (i := 92) rfl)) rfl
set_option maxRecDepth 100000 in
theorem wm_375 : Cond.instanceMethod yX1_weigh ∈ pm_tbl := pm_m (lw_in2 (List.mem_of_getElem? (i := 93) rfl)) rfl
set_option maxRecDepth 100000 in
theorem wm_376 : Cond.selects RX1 yX1_weigh yX1_weigh ∈ pm_tbl := pm_m (lw_in2 (List.mem_of_getElem? (i := 94) rfl)) rfl
set_option maxRecDepth 100000 in
theorem wm_377 : Cond.sameMethod RX1 RX1 "weigh" "(LStalkRoom$Odds;)V" ∈ pm_tbl := pm_m (lw_in2 (List.mem_of_getElem? (i := 95) rfl)) rfl
set_option maxRecDepth 100000 in
theorem wm_378 : Cond.selects RX2 yX1_weigh yX2_weigh ∈ pm_tbl := pm_m (lw_in2 (List.mem_of_getElem? (i := 96) rfl)) rfl
set_option maxRecDepth 100000 in
theorem wm_379 : Cond.instanceMethod yX2_weigh ∈ pm_tbl := pm_m (lw_in2 (List.mem_of_getElem? (i := 97) rfl)) rfl
set_option maxRecDepth 100000 in
theorem wm_380 : Cond.code yX2_weigh cX2_weigh 2 none ∈ pm_tbl := pm_m (lw_in2 (List.mem_of_getElem? (i := 98) rfl)) rfl
set_option maxRecDepth 100000 in
theorem wm_381 : Cond.constantLong RX2 15 (8) ∈ pm_tbl := pm_m (lw_in2 (List.mem_of_getElem? (i := 99) rfl)) rfl
set_option maxRecDepth 100000 in
theorem wm_382 : Cond.methodLink RX2 17 yX4_begin ∈ pm_tbl := pm_m (lw_in2 (List.mem_of_getElem? (i := 100) rfl)) rfl
set_option maxRecDepth 100000 in
theorem wm_383 : Cond.instanceMethod yX4_begin ∈ pm_tbl := pm_m (lw_in2 (List.mem_of_getElem? (i := 101) rfl)) rfl
set_option maxRecDepth 100000 in
theorem wm_384 : Cond.selects RX4 yX4_begin yX4_begin ∈ pm_tbl := pm_m (lw_in2 (List.mem_of_getElem? (i := 102) rfl)) rfl
set_option maxRecDepth 100000 in
theorem wm_385 : Cond.code yX4_begin cX4_begin 3 none ∈ pm_tbl := pm_m (lw_in2 (List.mem_of_getElem? (i := 103) rfl)) rfl
set_option maxRecDepth 100000 in
theorem wm_386 : Cond.methodLink RX4 25 yJ7_fill_d0a16 ∈ pm_tbl := pm_m (lw_in2 (List.mem_of_getElem? (i := 104) rfl)) rfl
set_option maxRecDepth 100000 in
theorem wm_387 : Cond.static yJ7_fill_d0a16 ∈ pm_tbl := pm_m (lw_in2 (List.mem_of_getElem? (i := 105) rfl)) rfl
set_option maxRecDepth 100000 in
theorem wm_388 : Cond.code yJ7_fill_d0a16 cJ7_fill_d0a16 5 none ∈ pm_tbl := pm_m (lw_in2 (List.mem_of_getElem? (i := 106) rfl)) rfl
set_option maxRecDepth 100000 in
theorem wm_389 : Cond.constantLong RX2 27 (3) ∈ pm_tbl := pm_m (lw_in2 (List.mem_of_getElem? (i := 107) rfl)) rfl
set_option maxRecDepth 100000 in
theorem wm_390 : Cond.selects RX6 yX1_weigh yX6_weigh ∈ pm_tbl := pm_m (lw_in2 (List.mem_of_getElem? (i := 108) rfl)) rfl
set_option maxRecDepth 100000 in
theorem wm_391 : Cond.instanceMethod yX6_weigh ∈ pm_tbl := pm_m (lw_in2 (List.mem_of_getElem? (i := 109) rfl)) rfl
set_option maxRecDepth 100000 in
theorem wm_392 : Cond.code yX6_weigh cX6_weigh 2 none ∈ pm_tbl := pm_m (lw_in2 (List.mem_of_getElem? (i := 110) rfl)) rfl
set_option maxRecDepth 100000 in
theorem wm_393 : Cond.methodLink RX6 50 yX6_weighBundle ∈ pm_tbl := pm_m (lw_in2 (List.mem_of_getElem? (i := 111) rfl)) rfl
set_option maxRecDepth 100000 in
theorem wm_394 : Cond.instanceMethod yX6_weighBundle ∈ pm_tbl := pm_m (lw_in2 (List.mem_of_getElem? (i := 112) rfl)) rfl
set_option maxRecDepth 100000 in
theorem wm_395 : Cond.selects RX6 yX6_weighBundle yX6_weighBundle ∈ pm_tbl := pm_m (lw_in2 (List.mem_of_getElem? (i := 113) rfl)) rfl
set_option maxRecDepth 100000 in
theorem wm_397 : Cond.selects RX7 yX6_weighBundle yX6_weighBundle ∈ pm_tbl := pm_m (lw_in2 (List.mem_of_getElem? (i := 115) rfl)) rfl
set_option maxRecDepth 100000 in
theorem wm_398 : Cond.code yX6_weighBundle cX6_weighBundle 5 none ∈ pm_tbl := pm_m (lw_in2 (List.mem_of_getElem? (i := 116) rfl)) rfl
set_option maxRecDepth 100000 in
theorem wm_399 : Cond.methodLink RX6 54 yX4_beginBundle ∈ pm_tbl := pm_m (lw_in2 (List.mem_of_getElem? (i := 117) rfl)) rfl
set_option maxRecDepth 100000 in
theorem wm_400 : Cond.instanceMethod yX4_beginBundle ∈ pm_tbl := pm_m (lw_in2 (List.mem_of_getElem? (i := 118) rfl)) rfl
set_option maxRecDepth 100000 in
theorem wm_401 : Cond.selects RX4 yX4_beginBundle yX4_beginBundle ∈ pm_tbl := pm_m (lw_in2 (List.mem_of_getElem? (i := 119) rfl)) rfl
set_option maxRecDepth 100000 in
theorem wm_402 : Cond.code yX4_beginBundle cX4_beginBundle 2 none ∈ pm_tbl := pm_m (lw_in2 (List.mem_of_getElem? (i := 120) rfl)) rfl
set_option maxRecDepth 100000 in
theorem wm_403 : Cond.methodLink RX4 31 yX4_begin ∈ pm_tbl := pm_m (lw_in2 (List.mem_of_getElem? (i := 121) rfl)) rfl
set_option maxRecDepth 100000 in
theorem wm_404 : Cond.methodLink RX6 60 yX6_partHeaps ∈ pm_tbl := pm_m (lw_in2 (List.mem_of_getElem? (i := 122) rfl)) rfl
set_option maxRecDepth 100000 in
theorem wm_406 : Cond.instanceMethod yX6_partHeaps ∈ pm_tbl := pm_m (lw_in2 (List.mem_of_getElem? (i := 124) rfl)) rfl
set_option maxRecDepth 100000 in
theorem wm_407 : Cond.code yX6_partHeaps cX6_partHeaps 5 none ∈ pm_tbl := pm_m (lw_in2 (List.mem_of_getElem? (i := 125) rfl)) rfl
set_option maxRecDepth 100000 in
theorem wm_408 : Cond.methodLink RX6 71 yX6_sharesOf ∈ pm_tbl := pm_m (lw_in2 (List.mem_of_getElem? (i := 126) rfl)) rfl
set_option maxRecDepth 100000 in
theorem wm_410 : Cond.instanceMethod yX6_sharesOf ∈ pm_tbl := pm_m (lw_in2 (List.mem_of_getElem? (i := 128) rfl)) rfl
set_option maxRecDepth 100000 in
theorem wm_411 : Cond.code yX6_sharesOf cX6_sharesOf 5 (some .long) ∈ pm_tbl := pm_m (lw_in2 (List.mem_of_getElem? (i := 129) rfl)) rfl
set_option maxRecDepth 100000 in
theorem wm_412 : Cond.methodLink RX6 82 yJ7_fill_d0a16 ∈ pm_tbl := pm_m (lw_in2 (List.mem_of_getElem? (i := 130) rfl)) rfl
set_option maxRecDepth 100000 in
theorem wm_413 : Cond.methodLink RX6 88 yX6_partHeap ∈ pm_tbl := pm_m (lw_in2 (List.mem_of_getElem? (i := 131) rfl)) rfl
set_option maxRecDepth 100000 in
theorem wm_415 : Cond.instanceMethod yX6_partHeap ∈ pm_tbl := pm_m (lw_in2 (List.mem_of_getElem? (i := 133) rfl)) rfl
set_option maxRecDepth 100000 in
theorem wm_416 : Cond.code yX6_partHeap cX6_partHeap 11 none ∈ pm_tbl := pm_m (lw_in2 (List.mem_of_getElem? (i := 134) rfl)) rfl
set_option maxRecDepth 100000 in
theorem wm_417 : Cond.methodLink RX6 92 ⟨"java/lang/System", "arraycopy", "(Ljava/lang/Object;ILjava/lang/Object;II)V"⟩ ∈ pm_tbl := pm_m (lw_in2 (List.mem_of_getElem? (i := 135) rfl)) rfl
set_option maxRecDepth 100000 in
theorem wm_418 : Cond.static ⟨"java/lang/System", "arraycopy", "(Ljava/lang/Object;ILjava/lang/Object;II)V"⟩ ∈ pm_tbl := pm_m (lw_in2 (List.mem_of_getElem? (i := 136) rfl)) rfl
set_option maxRecDepth 100000 in
theorem wm_419 : Cond.native ⟨"java/lang/System", "arraycopy", "(Ljava/lang/Object;ILjava/lang/Object;II)V"⟩ ∈ pm_tbl := pm_m (lw_in2 (List.mem_of_getElem? (i := 137) rfl)) rfl
set_option maxRecDepth 100000 in
theorem wm_420 : Cond.methodLink RX6 47 yX6_lineOf ∈ pm_tbl := pm_m (lw_in2 (List.mem_of_getElem? (i := 138) rfl)) rfl
set_option maxRecDepth 100000 in
theorem wm_421 : Cond.selects RX7 yX1_weigh yX6_weigh ∈ pm_tbl := pm_m (lw_in2 (List.mem_of_getElem? (i := 139) rfl)) rfl
set_option maxRecDepth 100000 in
theorem wm_422 : Cond.code yX1_weigh cX1_weigh 2 none ∈ pm_tbl := pm_m (lw_in2 (List.mem_of_getElem? (i := 140) rfl)) rfl
set_option maxRecDepth 100000 in
theorem wm_423 : Cond.methodLink RX1 9 yX4_begin ∈ pm_tbl := pm_m (lw_in2 (List.mem_of_getElem? (i := 141) rfl)) rfl
set_option maxRecDepth 100000 in
theorem wm_424 : Cond.methodLink RX9 146 yX9_tellFraction ∈ pm_tbl := pm_m (lw_in2 (List.mem_of_getElem? (i := 142) rfl)) rfl
set_option maxRecDepth 100000 in
theorem wm_426 : Cond.instanceMethod yX9_tellFraction ∈ pm_tbl := pm_m (lw_in2 (List.mem_of_getElem? (i := 144) rfl)) rfl
set_option maxRecDepth 100000 in
theorem wm_427 : Cond.code yX9_tellFraction cX9_tellFraction 7 none ∈ pm_tbl := pm_m (lw_in2 (List.mem_of_getElem? (i := 145) rfl)) rfl
set_option maxRecDepth 100000 in
theorem wm_428 : Cond.methodLink RX9 274 yX9_commonDivisor ∈ pm_tbl := pm_m (lw_in2 (List.mem_of_getElem? (i := 146) rfl)) rfl
set_option maxRecDepth 100000 in
theorem wm_429 : Cond.static yX9_commonDivisor ∈ pm_tbl := pm_m (lw_in2 (List.mem_of_getElem? (i := 147) rfl)) rfl
set_option maxRecDepth 100000 in
theorem wm_430 : Cond.code yX9_commonDivisor cX9_commonDivisor 7 (some .long) ∈ pm_tbl := pm_m (lw_in2 (List.mem_of_getElem? (i := 148) rfl)) rfl
set_option maxRecDepth 100000 in
theorem wm_431 : Cond.methodLink RL 51 yX9_mean ∈ pm_tbl := pm_m (lw_in2 (List.mem_of_getElem? (i := 149) rfl)) rfl
set_option maxRecDepth 100000 in
theorem wm_432 : Cond.instanceMethod yX9_mean ∈ pm_tbl := pm_m (lw_in2 (List.mem_of_getElem? (i := 150) rfl)) rfl
set_option maxRecDepth 100000 in
theorem wm_433 : Cond.selects RX9 yX9_mean yX9_mean ∈ pm_tbl := pm_m (lw_in2 (List.mem_of_getElem? (i := 151) rfl)) rfl
set_option maxRecDepth 100000 in
theorem wm_434 : Cond.code yX9_mean cX9_mean 6 (some .int) ∈ pm_tbl := pm_m (lw_in2 (List.mem_of_getElem? (i := 152) rfl)) rfl
set_option maxRecDepth 100000 in
theorem wm_435 : Cond.methodLink RL 58 yX9_drawn ∈ pm_tbl := pm_m (lw_in2 (List.mem_of_getElem? (i := 153) rfl)) rfl
set_option maxRecDepth 100000 in
theorem wm_436 : Cond.instanceMethod yX9_drawn ∈ pm_tbl := pm_m (lw_in2 (List.mem_of_getElem? (i := 154) rfl)) rfl
set_option maxRecDepth 100000 in
theorem wm_437 : Cond.selects RX9 yX9_drawn yX9_drawn ∈ pm_tbl := pm_m (lw_in2 (List.mem_of_getElem? (i := 155) rfl)) rfl
set_option maxRecDepth 100000 in
theorem wm_438 : Cond.code yX9_drawn cX9_drawn 5 (some .int) ∈ pm_tbl := pm_m (lw_in2 (List.mem_of_getElem? (i := 156) rfl)) rfl
set_option maxRecDepth 100000 in
theorem wm_439 : Cond.methodLink RX9 150 yX5_begin ∈ pm_tbl := pm_m (lw_in2 (List.mem_of_getElem? (i := 157) rfl)) rfl
set_option maxRecDepth 100000 in
theorem wm_440 : Cond.instanceMethod yX5_begin ∈ pm_tbl := pm_m (lw_in2 (List.mem_of_getElem? (i := 158) rfl)) rfl
set_option maxRecDepth 100000 in
theorem wm_441 : Cond.selects RX5 yX5_begin yX5_begin ∈ pm_tbl := pm_m (lw_in2 (List.mem_of_getElem? (i := 159) rfl)) rfl
set_option maxRecDepth 100000 in
theorem wm_442 : Cond.code yX5_begin cX5_begin 3 none ∈ pm_tbl := pm_m (lw_in2 (List.mem_of_getElem? (i := 160) rfl)) rfl
set_option maxRecDepth 100000 in
theorem wm_443 : Cond.methodLink RX9 154 yX1_castLine ∈ pm_tbl := pm_m (lw_in2 (List.mem_of_getElem? (i := 161) rfl)) rfl
set_option maxRecDepth 100000 in
theorem wm_444 : Cond.instanceMethod yX1_castLine ∈ pm_tbl := pm_m (lw_in2 (List.mem_of_getElem? (i := 162) rfl)) rfl
set_option maxRecDepth 100000 in
theorem wm_445 : Cond.selects RX1 yX1_castLine yX1_castLine ∈ pm_tbl := pm_m (lw_in2 (List.mem_of_getElem? (i := 163) rfl)) rfl
set_option maxRecDepth 100000 in
theorem wm_446 : Cond.sameMethod RX1 RX1 "castLine" "(LStalkRoom$Seed;)I" ∈ pm_tbl := pm_m (lw_in2 (List.mem_of_getElem? (i := 164) rfl)) rfl
set_option maxRecDepth 100000 in
theorem wm_447 : Cond.selects RX2 yX1_castLine yX2_castLine ∈ pm_tbl := pm_m (lw_in2 (List.mem_of_getElem? (i := 165) rfl)) rfl
set_option maxRecDepth 100000 in
theorem wm_448 : Cond.instanceMethod yX2_castLine ∈ pm_tbl := pm_m (lw_in2 (List.mem_of_getElem? (i := 166) rfl)) rfl
set_option maxRecDepth 100000 in
theorem wm_449 : Cond.code yX2_castLine cX2_castLine 3 (some .int) ∈ pm_tbl := pm_m (lw_in2 (List.mem_of_getElem? (i := 167) rfl)) rfl
set_option maxRecDepth 100000 in
theorem wm_450 : Cond.methodLink RX2 9 yX5_nextBelow ∈ pm_tbl := pm_m (lw_in2 (List.mem_of_getElem? (i := 168) rfl)) rfl
set_option maxRecDepth 100000 in
theorem wm_451 : Cond.instanceMethod yX5_nextBelow ∈ pm_tbl := pm_m (lw_in2 (List.mem_of_getElem? (i := 169) rfl)) rfl
set_option maxRecDepth 100000 in
theorem wm_452 : Cond.selects RX5 yX5_nextBelow yX5_nextBelow ∈ pm_tbl := pm_m (lw_in2 (List.mem_of_getElem? (i := 170) rfl)) rfl
set_option maxRecDepth 100000 in
theorem wm_453 : Cond.code yX5_nextBelow cX5_nextBelow 2 (some .int) ∈ pm_tbl := pm_m (lw_in2 (List.mem_of_getElem? (i := 171) rfl)) rfl
set_option maxRecDepth 100000 in
theorem wm_454 : Cond.constantLong RX5 13 (6364136223846793005) ∈ pm_tbl := pm_m (lw_in2 (List.mem_of_getElem? (i := 172) rfl)) rfl
set_option maxRecDepth 100000 in
theorem wm_455 : Cond.constantLong RX5 15 (1442695040888963407) ∈ pm_tbl := pm_m (lw_in2 (List.mem_of_getElem? (i := 173) rfl)) rfl
set_option maxRecDepth 100000 in
theorem wm_456 : Cond.selects RX6 yX1_castLine yX6_castLine ∈ pm_tbl := pm_m (lw_in2 (List.mem_of_getElem? (i := 174) rfl)) rfl
set_option maxRecDepth 100000 in
theorem wm_457 : Cond.instanceMethod yX6_castLine ∈ pm_tbl := pm_m (lw_in2 (List.mem_of_getElem? (i := 175) rfl)) rfl
set_option maxRecDepth 100000 in
theorem wm_458 : Cond.code yX6_castLine cX6_castLine 4 (some .int) ∈ pm_tbl := pm_m (lw_in2 (List.mem_of_getElem? (i := 176) rfl)) rfl
set_option maxRecDepth 100000 in
theorem wm_459 : Cond.methodLink RX6 42 yX5_nextBelow ∈ pm_tbl := pm_m (lw_in2 (List.mem_of_getElem? (i := 177) rfl)) rfl
set_option maxRecDepth 100000 in
theorem wm_460 : Cond.selects RX7 yX1_castLine yX6_castLine ∈ pm_tbl := pm_m (lw_in2 (List.mem_of_getElem? (i := 178) rfl)) rfl
set_option maxRecDepth 100000 in
theorem wm_461 : Cond.code yX1_castLine cX1_castLine 2 (some .int) ∈ pm_tbl := pm_m (lw_in2 (List.mem_of_getElem? (i := 179) rfl)) rfl
set_option maxRecDepth 100000 in
theorem wm_462 : Cond.methodLink RL 63 yX9_set ∈ pm_tbl := pm_m (lw_in2 (List.mem_of_getElem? (i := 180) rfl)) rfl
set_option maxRecDepth 100000 in
theorem wm_463 : Cond.instanceMethod yX9_set ∈ pm_tbl := pm_m (lw_in2 (List.mem_of_getElem? (i := 181) rfl)) rfl
set_option maxRecDepth 100000 in
theorem wm_464 : Cond.selects RX9 yX9_set yX9_set ∈ pm_tbl := pm_m (lw_in2 (List.mem_of_getElem? (i := 182) rfl)) rfl
set_option maxRecDepth 100000 in
theorem wm_465 : Cond.code yX9_set cX9_set 6 (some .int) ∈ pm_tbl := pm_m (lw_in2 (List.mem_of_getElem? (i := 183) rfl)) rfl
set_option maxRecDepth 100000 in
theorem wm_466 : Cond.methodLink RX9 158 yX9_figureAt ∈ pm_tbl := pm_m (lw_in2 (List.mem_of_getElem? (i := 184) rfl)) rfl
set_option maxRecDepth 100000 in
theorem wm_468 : Cond.instanceMethod yX9_figureAt ∈ pm_tbl := pm_m (lw_in2 (List.mem_of_getElem? (i := 186) rfl)) rfl
set_option maxRecDepth 100000 in
theorem wm_469 : Cond.code yX9_figureAt cX9_figureAt 2 (some (.object "StalkRoom$Figure")) ∈ pm_tbl := pm_m (lw_in2 (List.mem_of_getElem? (i := 187) rfl)) rfl
set_option maxRecDepth 100000 in
theorem wm_470 : Cond.methodLink RL 67 yX9_get ∈ pm_tbl := pm_m (lw_in2 (List.mem_of_getElem? (i := 188) rfl)) rfl
set_option maxRecDepth 100000 in
theorem wm_471 : Cond.instanceMethod yX9_get ∈ pm_tbl := pm_m (lw_in2 (List.mem_of_getElem? (i := 189) rfl)) rfl
set_option maxRecDepth 100000 in
theorem wm_472 : Cond.selects RX9 yX9_get yX9_get ∈ pm_tbl := pm_m (lw_in2 (List.mem_of_getElem? (i := 190) rfl)) rfl
set_option maxRecDepth 100000 in
theorem wm_473 : Cond.code yX9_get cX9_get 4 (some .int) ∈ pm_tbl := pm_m (lw_in2 (List.mem_of_getElem? (i := 191) rfl)) rfl
set_option maxRecDepth 100000 in
theorem wm_474 : Cond.methodLink RL 71 yX9_draw ∈ pm_tbl := pm_m (lw_in2 (List.mem_of_getElem? (i := 192) rfl)) rfl
set_option maxRecDepth 100000 in
theorem wm_475 : Cond.instanceMethod yX9_draw ∈ pm_tbl := pm_m (lw_in2 (List.mem_of_getElem? (i := 193) rfl)) rfl
set_option maxRecDepth 100000 in
theorem wm_476 : Cond.selects RX9 yX9_draw yX9_draw ∈ pm_tbl := pm_m (lw_in2 (List.mem_of_getElem? (i := 194) rfl)) rfl
set_option maxRecDepth 100000 in
theorem wm_477 : Cond.code yX9_draw cX9_draw 7 (some .int) ∈ pm_tbl := pm_m (lw_in2 (List.mem_of_getElem? (i := 195) rfl)) rfl
set_option maxRecDepth 100000 in
theorem wm_478 : Cond.methodLink RX9 165 yX3_castBy ∈ pm_tbl := pm_m (lw_in2 (List.mem_of_getElem? (i := 196) rfl)) rfl
set_option maxRecDepth 100000 in
theorem wm_479 : Cond.instanceMethod yX3_castBy ∈ pm_tbl := pm_m (lw_in2 (List.mem_of_getElem? (i := 197) rfl)) rfl
set_option maxRecDepth 100000 in
theorem wm_480 : Cond.selects RX3 yX3_castBy yX3_castBy ∈ pm_tbl := pm_m (lw_in2 (List.mem_of_getElem? (i := 198) rfl)) rfl
set_option maxRecDepth 100000 in
theorem wm_481 : Cond.code yX3_castBy cX3_castBy 5 (some .boolean) ∈ pm_tbl := pm_m (lw_in2 (List.mem_of_getElem? (i := 199) rfl)) rfl
set_option maxRecDepth 100000 in
theorem wm_482 : Cond.methodLink RX3 31 yX1_castLine ∈ pm_tbl := pm_m (lw_in2 (List.mem_of_getElem? (i := 200) rfl)) rfl
set_option maxRecDepth 100000 in
theorem wm_483 : Cond.methodLink RX9 169 yX3_become ∈ pm_tbl := pm_m (lw_in2 (List.mem_of_getElem? (i := 201) rfl)) rfl
set_option maxRecDepth 100000 in
theorem wm_484 : Cond.instanceMethod yX3_become ∈ pm_tbl := pm_m (lw_in2 (List.mem_of_getElem? (i := 202) rfl)) rfl
set_option maxRecDepth 100000 in
theorem wm_485 : Cond.selects RX3 yX3_become yX3_become ∈ pm_tbl := pm_m (lw_in2 (List.mem_of_getElem? (i := 203) rfl)) rfl
set_option maxRecDepth 100000 in
theorem wm_486 : Cond.code yX3_become cX3_become 2 none ∈ pm_tbl := pm_m (lw_in2 (List.mem_of_getElem? (i := 204) rfl)) rfl
set_option maxRecDepth 100000 in
theorem wm_487 : Cond.methodLink RX3 25 ⟨"java/lang/System", "arraycopy", "(Ljava/lang/Object;ILjava/lang/Object;II)V"⟩ ∈ pm_tbl := pm_m (lw_in2 (List.mem_of_getElem? (i := 205) rfl)) rfl
set_option maxRecDepth 100000 in
theorem wm_488 : Cond.methodLink RX9 173 yX3_oldLines ∈ pm_tbl := pm_m (lw_in2 (List.mem_of_getElem? (i := 206) rfl)) rfl
set_option maxRecDepth 100000 in
theorem wm_489 : Cond.instanceMethod yX3_oldLines ∈ pm_tbl := pm_m (lw_in2 (List.mem_of_getElem? (i := 207) rfl)) rfl
set_option maxRecDepth 100000 in
theorem wm_490 : Cond.selects RX3 yX3_oldLines yX3_oldLines ∈ pm_tbl := pm_m (lw_in2 (List.mem_of_getElem? (i := 208) rfl)) rfl
set_option maxRecDepth 100000 in
theorem wm_491 : Cond.code yX3_oldLines cX3_oldLines 3 (some .int) ∈ pm_tbl := pm_m (lw_in2 (List.mem_of_getElem? (i := 209) rfl)) rfl
set_option maxRecDepth 100000 in
theorem wm_492 : Cond.methodLinkNest RX3 21 yX9_isOld RX9 ∈ pm_tbl := pm_m (lw_in2 (List.mem_of_getElem? (i := 210) rfl)) rfl
set_option maxRecDepth 100000 in
theorem wm_493 : Cond.static yX9_isOld ∈ pm_tbl := pm_m (lw_in2 (List.mem_of_getElem? (i := 211) rfl)) rfl
set_option maxRecDepth 100000 in
theorem wm_494 : Cond.code yX9_isOld cX9_isOld 1 (some .boolean) ∈ pm_tbl := pm_m (lw_in2 (List.mem_of_getElem? (i := 212) rfl)) rfl
set_option maxRecDepth 100000 in
theorem wm_495 : Cond.methodLink RL 76 yX9_number ∈ pm_tbl := pm_m (lw_in2 (List.mem_of_getElem? (i := 213) rfl)) rfl
set_option maxRecDepth 100000 in
theorem wm_496 : Cond.instanceMethod yX9_number ∈ pm_tbl := pm_m (lw_in2 (List.mem_of_getElem? (i := 214) rfl)) rfl
set_option maxRecDepth 100000 in
theorem wm_497 : Cond.selects RX9 yX9_number yX9_number ∈ pm_tbl := pm_m (lw_in2 (List.mem_of_getElem? (i := 215) rfl)) rfl
set_option maxRecDepth 100000 in
theorem wm_498 : Cond.code yX9_number cX9_number 3 (some .int) ∈ pm_tbl := pm_m (lw_in2 (List.mem_of_getElem? (i := 216) rfl)) rfl
set_option maxRecDepth 100000 in
theorem wm_499 : Cond.methodLink RX9 176 yX3_bits ∈ pm_tbl := pm_m (lw_in2 (List.mem_of_getElem? (i := 217) rfl)) rfl
set_option maxRecDepth 100000 in
theorem wm_500 : Cond.instanceMethod yX3_bits ∈ pm_tbl := pm_m (lw_in2 (List.mem_of_getElem? (i := 218) rfl)) rfl
set_option maxRecDepth 100000 in
theorem wm_501 : Cond.selects RX3 yX3_bits yX3_bits ∈ pm_tbl := pm_m (lw_in2 (List.mem_of_getElem? (i := 219) rfl)) rfl
set_option maxRecDepth 100000 in
theorem wm_502 : Cond.code yX3_bits cX3_bits 3 (some .int) ∈ pm_tbl := pm_m (lw_in2 (List.mem_of_getElem? (i := 220) rfl)) rfl
set_option maxRecDepth 100000 in
theorem wm_503 : Cond.methodLink RL 80 yX9_act ∈ pm_tbl := pm_m (lw_in2 (List.mem_of_getElem? (i := 221) rfl)) rfl
set_option maxRecDepth 100000 in
theorem wm_504 : Cond.instanceMethod yX9_act ∈ pm_tbl := pm_m (lw_in2 (List.mem_of_getElem? (i := 222) rfl)) rfl
set_option maxRecDepth 100000 in
theorem wm_505 : Cond.selects RX9 yX9_act yX9_act ∈ pm_tbl := pm_m (lw_in2 (List.mem_of_getElem? (i := 223) rfl)) rfl
set_option maxRecDepth 100000 in
theorem wm_506 : Cond.code yX9_act cX9_act 6 (some .int) ∈ pm_tbl := pm_m (lw_in2 (List.mem_of_getElem? (i := 224) rfl)) rfl
set_option maxRecDepth 100000 in
theorem wm_507 : Cond.methodLink RX9 179 yX3_becomeAfter ∈ pm_tbl := pm_m (lw_in2 (List.mem_of_getElem? (i := 225) rfl)) rfl
set_option maxRecDepth 100000 in
theorem wm_508 : Cond.instanceMethod yX3_becomeAfter ∈ pm_tbl := pm_m (lw_in2 (List.mem_of_getElem? (i := 226) rfl)) rfl
set_option maxRecDepth 100000 in
theorem wm_509 : Cond.selects RX3 yX3_becomeAfter yX3_becomeAfter ∈ pm_tbl := pm_m (lw_in2 (List.mem_of_getElem? (i := 227) rfl)) rfl
set_option maxRecDepth 100000 in
theorem wm_510 : Cond.code yX3_becomeAfter cX3_becomeAfter 4 none ∈ pm_tbl := pm_m (lw_in2 (List.mem_of_getElem? (i := 228) rfl)) rfl
set_option maxRecDepth 100000 in
theorem wm_511 : Cond.methodLink RX3 37 yX3_changed ∈ pm_tbl := pm_m (lw_in2 (List.mem_of_getElem? (i := 229) rfl)) rfl
set_option maxRecDepth 100000 in
theorem wm_512 : Cond.static yX3_changed ∈ pm_tbl := pm_m (lw_in2 (List.mem_of_getElem? (i := 230) rfl)) rfl
set_option maxRecDepth 100000 in
theorem wm_513 : Cond.code yX3_changed cX3_changed 1 (some .int) ∈ pm_tbl := pm_m (lw_in2 (List.mem_of_getElem? (i := 231) rfl)) rfl
set_option maxRecDepth 100000 in
theorem wm_514 : Cond.methodLink RL 84 yX9_way ∈ pm_tbl := pm_m (lw_in2 (List.mem_of_getElem? (i := 232) rfl)) rfl
set_option maxRecDepth 100000 in
theorem wm_515 : Cond.instanceMethod yX9_way ∈ pm_tbl := pm_m (lw_in2 (List.mem_of_getElem? (i := 233) rfl)) rfl
set_option maxRecDepth 100000 in
theorem wm_516 : Cond.selects RX9 yX9_way yX9_way ∈ pm_tbl := pm_m (lw_in2 (List.mem_of_getElem? (i := 234) rfl)) rfl
set_option maxRecDepth 100000 in
theorem wm_517 : Cond.code yX9_way cX9_way 4 (some .int) ∈ pm_tbl := pm_m (lw_in2 (List.mem_of_getElem? (i := 235) rfl)) rfl
set_option maxRecDepth 100000 in
theorem wm_518 : Cond.methodLink RX9 183 yX9_isNumber ∈ pm_tbl := pm_m (lw_in2 (List.mem_of_getElem? (i := 236) rfl)) rfl
set_option maxRecDepth 100000 in
theorem wm_519 : Cond.static yX9_isNumber ∈ pm_tbl := pm_m (lw_in2 (List.mem_of_getElem? (i := 237) rfl)) rfl
set_option maxRecDepth 100000 in
theorem wm_520 : Cond.code yX9_isNumber cX9_isNumber 1 (some .boolean) ∈ pm_tbl := pm_m (lw_in2 (List.mem_of_getElem? (i := 238) rfl)) rfl
set_option maxRecDepth 100000 in
theorem wm_521 : Cond.methodLink RX9 187 yX8_find ∈ pm_tbl := pm_m (lw_in2 (List.mem_of_getElem? (i := 239) rfl)) rfl
set_option maxRecDepth 100000 in
theorem wm_522 : Cond.instanceMethod yX8_find ∈ pm_tbl := pm_m (lw_in3 (List.mem_of_getElem? (i := 0) rfl)) rfl
set_option maxRecDepth 100000 in
theorem wm_523 : Cond.selects RX8 yX8_find yX8_find ∈ pm_tbl := pm_m (lw_in3 (List.mem_of_getElem? (i := 1) rfl)) rfl
set_option maxRecDepth 100000 in
theorem wm_524 : Cond.code yX8_find cX8_find 5 (some .int) ∈ pm_tbl := pm_m (lw_in3 (List.mem_of_getElem? (i := 2) rfl)) rfl
set_option maxRecDepth 100000 in
theorem wm_525 : Cond.methodLink RX8 28 yX8_meetAll ∈ pm_tbl := pm_m (lw_in3 (List.mem_of_getElem? (i := 3) rfl)) rfl
set_option maxRecDepth 100000 in
theorem wm_527 : Cond.instanceMethod yX8_meetAll ∈ pm_tbl := pm_m (lw_in3 (List.mem_of_getElem? (i := 5) rfl)) rfl
set_option maxRecDepth 100000 in
theorem wm_528 : Cond.code yX8_meetAll cX8_meetAll 8 none ∈ pm_tbl := pm_m (lw_in3 (List.mem_of_getElem? (i := 6) rfl)) rfl
set_option maxRecDepth 100000 in
theorem wm_529 : Cond.methodLink RX8 36 yJ7_fill_53178 ∈ pm_tbl := pm_m (lw_in3 (List.mem_of_getElem? (i := 7) rfl)) rfl
set_option maxRecDepth 100000 in
theorem wm_530 : Cond.methodLink RX8 42 yX8_after ∈ pm_tbl := pm_m (lw_in3 (List.mem_of_getElem? (i := 8) rfl)) rfl
set_option maxRecDepth 100000 in
theorem wm_531 : Cond.static yX8_after ∈ pm_tbl := pm_m (lw_in3 (List.mem_of_getElem? (i := 9) rfl)) rfl
set_option maxRecDepth 100000 in
theorem wm_532 : Cond.code yX8_after cX8_after 2 (some .int) ∈ pm_tbl := pm_m (lw_in3 (List.mem_of_getElem? (i := 10) rfl)) rfl
set_option maxRecDepth 100000 in
theorem wm_533 : Cond.methodLinkNest RX8 46 yX9_turnedBits RX9 ∈ pm_tbl := pm_m (lw_in3 (List.mem_of_getElem? (i := 11) rfl)) rfl
set_option maxRecDepth 100000 in
theorem wm_534 : Cond.static yX9_turnedBits ∈ pm_tbl := pm_m (lw_in3 (List.mem_of_getElem? (i := 12) rfl)) rfl
set_option maxRecDepth 100000 in
theorem wm_535 : Cond.code yX9_turnedBits cX9_turnedBits 3 (some .int) ∈ pm_tbl := pm_m (lw_in3 (List.mem_of_getElem? (i := 13) rfl)) rfl
set_option maxRecDepth 100000 in
theorem wm_536 : Cond.methodLinkNest RX8 50 yX9_oppositeBits RX9 ∈ pm_tbl := pm_m (lw_in3 (List.mem_of_getElem? (i := 14) rfl)) rfl
set_option maxRecDepth 100000 in
theorem wm_537 : Cond.static yX9_oppositeBits ∈ pm_tbl := pm_m (lw_in3 (List.mem_of_getElem? (i := 15) rfl)) rfl
set_option maxRecDepth 100000 in
theorem wm_538 : Cond.code yX9_oppositeBits cX9_oppositeBits 1 (some .int) ∈ pm_tbl := pm_m (lw_in3 (List.mem_of_getElem? (i := 16) rfl)) rfl
set_option maxRecDepth 100000 in
theorem wm_539 : Cond.methodLinkNest RX8 53 yX9_nestedBits RX9 ∈ pm_tbl := pm_m (lw_in3 (List.mem_of_getElem? (i := 17) rfl)) rfl
set_option maxRecDepth 100000 in
theorem wm_540 : Cond.static yX9_nestedBits ∈ pm_tbl := pm_m (lw_in3 (List.mem_of_getElem? (i := 18) rfl)) rfl
set_option maxRecDepth 100000 in
theorem wm_541 : Cond.code yX9_nestedBits cX9_nestedBits 1 (some .int) ∈ pm_tbl := pm_m (lw_in3 (List.mem_of_getElem? (i := 19) rfl)) rfl
set_option maxRecDepth 100000 in
theorem wm_542 : Cond.methodLinkNest RX8 32 yX9_isNumber RX9 ∈ pm_tbl := pm_m (lw_in3 (List.mem_of_getElem? (i := 20) rfl)) rfl
set_option maxRecDepth 100000 in
theorem wm_543 : Cond.methodLink RL 88 yX9_step ∈ pm_tbl := pm_m (lw_in3 (List.mem_of_getElem? (i := 21) rfl)) rfl
set_option maxRecDepth 100000 in
theorem wm_544 : Cond.instanceMethod yX9_step ∈ pm_tbl := pm_m (lw_in3 (List.mem_of_getElem? (i := 22) rfl)) rfl
set_option maxRecDepth 100000 in
theorem wm_545 : Cond.selects RX9 yX9_step yX9_step ∈ pm_tbl := pm_m (lw_in3 (List.mem_of_getElem? (i := 23) rfl)) rfl
set_option maxRecDepth 100000 in
theorem wm_546 : Cond.code yX9_step cX9_step 2 (some .int) ∈ pm_tbl := pm_m (lw_in3 (List.mem_of_getElem? (i := 24) rfl)) rfl
set_option maxRecDepth 100000 in
theorem wm_547 : Cond.methodLink RX9 191 yX8_actAt ∈ pm_tbl := pm_m (lw_in3 (List.mem_of_getElem? (i := 25) rfl)) rfl
set_option maxRecDepth 100000 in
theorem wm_548 : Cond.instanceMethod yX8_actAt ∈ pm_tbl := pm_m (lw_in3 (List.mem_of_getElem? (i := 26) rfl)) rfl
set_option maxRecDepth 100000 in
theorem wm_549 : Cond.selects RX8 yX8_actAt yX8_actAt ∈ pm_tbl := pm_m (lw_in3 (List.mem_of_getElem? (i := 27) rfl)) rfl
set_option maxRecDepth 100000 in
theorem wm_550 : Cond.code yX8_actAt cX8_actAt 2 (some .int) ∈ pm_tbl := pm_m (lw_in3 (List.mem_of_getElem? (i := 28) rfl)) rfl
set_option maxRecDepth 100000 in
theorem wm_551 : Cond.methodLink RL 92 yX9_row ∈ pm_tbl := pm_m (lw_in3 (List.mem_of_getElem? (i := 29) rfl)) rfl
set_option maxRecDepth 100000 in
theorem wm_552 : Cond.instanceMethod yX9_row ∈ pm_tbl := pm_m (lw_in3 (List.mem_of_getElem? (i := 30) rfl)) rfl
set_option maxRecDepth 100000 in
theorem wm_553 : Cond.selects RX9 yX9_row yX9_row ∈ pm_tbl := pm_m (lw_in3 (List.mem_of_getElem? (i := 31) rfl)) rfl
set_option maxRecDepth 100000 in
theorem wm_554 : Cond.code yX9_row cX9_row 4 (some .int) ∈ pm_tbl := pm_m (lw_in3 (List.mem_of_getElem? (i := 32) rfl)) rfl
set_option maxRecDepth 100000 in
theorem wm_555 : Cond.methodLink RX9 194 yX9_rowAt ∈ pm_tbl := pm_m (lw_in3 (List.mem_of_getElem? (i := 33) rfl)) rfl
set_option maxRecDepth 100000 in
theorem wm_557 : Cond.instanceMethod yX9_rowAt ∈ pm_tbl := pm_m (lw_in3 (List.mem_of_getElem? (i := 35) rfl)) rfl
set_option maxRecDepth 100000 in
theorem wm_558 : Cond.code yX9_rowAt cX9_rowAt 2 (some (.object "StalkRoom$ByteRow")) ∈ pm_tbl := pm_m (lw_in3 (List.mem_of_getElem? (i := 36) rfl)) rfl
set_option maxRecDepth 100000 in
theorem wm_559 : Cond.methodLink RX9 198 yX0_begin ∈ pm_tbl := pm_m (lw_in3 (List.mem_of_getElem? (i := 37) rfl)) rfl
set_option maxRecDepth 100000 in
theorem wm_560 : Cond.instanceMethod yX0_begin ∈ pm_tbl := pm_m (lw_in3 (List.mem_of_getElem? (i := 38) rfl)) rfl
set_option maxRecDepth 100000 in
theorem wm_561 : Cond.selects RX0 yX0_begin yX0_begin ∈ pm_tbl := pm_m (lw_in3 (List.mem_of_getElem? (i := 39) rfl)) rfl
set_option maxRecDepth 100000 in
theorem wm_562 : Cond.code yX0_begin cX0_begin 2 none ∈ pm_tbl := pm_m (lw_in3 (List.mem_of_getElem? (i := 40) rfl)) rfl
set_option maxRecDepth 100000 in
theorem wm_563 : Cond.methodLink RX0 19 yJ7_fill_031fb ∈ pm_tbl := pm_m (lw_in3 (List.mem_of_getElem? (i := 41) rfl)) rfl
set_option maxRecDepth 100000 in
theorem wm_564 : Cond.static yJ7_fill_031fb ∈ pm_tbl := pm_m (lw_in3 (List.mem_of_getElem? (i := 42) rfl)) rfl
set_option maxRecDepth 100000 in
theorem wm_565 : Cond.code yJ7_fill_031fb cJ7_fill_031fb 4 none ∈ pm_tbl := pm_m (lw_in3 (List.mem_of_getElem? (i := 43) rfl)) rfl
set_option maxRecDepth 100000 in
theorem wm_566 : Cond.methodLink RL 96 yX9_lay ∈ pm_tbl := pm_m (lw_in3 (List.mem_of_getElem? (i := 44) rfl)) rfl
set_option maxRecDepth 100000 in
theorem wm_567 : Cond.instanceMethod yX9_lay ∈ pm_tbl := pm_m (lw_in3 (List.mem_of_getElem? (i := 45) rfl)) rfl
set_option maxRecDepth 100000 in
theorem wm_568 : Cond.selects RX9 yX9_lay yX9_lay ∈ pm_tbl := pm_m (lw_in3 (List.mem_of_getElem? (i := 46) rfl)) rfl
set_option maxRecDepth 100000 in
theorem wm_569 : Cond.code yX9_lay cX9_lay 6 (some .int) ∈ pm_tbl := pm_m (lw_in3 (List.mem_of_getElem? (i := 47) rfl)) rfl
set_option maxRecDepth 100000 in
theorem wm_570 : Cond.methodLink RX9 201 yX0_isThere ∈ pm_tbl := pm_m (lw_in3 (List.mem_of_getElem? (i := 48) rfl)) rfl
set_option maxRecDepth 100000 in
theorem wm_571 : Cond.instanceMethod yX0_isThere ∈ pm_tbl := pm_m (lw_in3 (List.mem_of_getElem? (i := 49) rfl)) rfl
set_option maxRecDepth 100000 in
theorem wm_572 : Cond.selects RX0 yX0_isThere yX0_isThere ∈ pm_tbl := pm_m (lw_in3 (List.mem_of_getElem? (i := 50) rfl)) rfl
set_option maxRecDepth 100000 in
theorem wm_573 : Cond.code yX0_isThere cX0_isThere 1 (some .boolean) ∈ pm_tbl := pm_m (lw_in3 (List.mem_of_getElem? (i := 51) rfl)) rfl
set_option maxRecDepth 100000 in
theorem wm_574 : Cond.methodLink RL 100 yX9_tear ∈ pm_tbl := pm_m (lw_in3 (List.mem_of_getElem? (i := 52) rfl)) rfl
set_option maxRecDepth 100000 in
theorem wm_575 : Cond.instanceMethod yX9_tear ∈ pm_tbl := pm_m (lw_in3 (List.mem_of_getElem? (i := 53) rfl)) rfl
set_option maxRecDepth 100000 in
theorem wm_576 : Cond.selects RX9 yX9_tear yX9_tear ∈ pm_tbl := pm_m (lw_in3 (List.mem_of_getElem? (i := 54) rfl)) rfl
set_option maxRecDepth 100000 in
theorem wm_577 : Cond.code yX9_tear cX9_tear 3 (some .int) ∈ pm_tbl := pm_m (lw_in3 (List.mem_of_getElem? (i := 55) rfl)) rfl
set_option maxRecDepth 100000 in
theorem wm_578 : Cond.methodLink RL 104 yX9_copy ∈ pm_tbl := pm_m (lw_in3 (List.mem_of_getElem? (i := 56) rfl)) rfl
set_option maxRecDepth 100000 in
theorem wm_579 : Cond.instanceMethod yX9_copy ∈ pm_tbl := pm_m (lw_in3 (List.mem_of_getElem? (i := 57) rfl)) rfl
set_option maxRecDepth 100000 in
theorem wm_580 : Cond.selects RX9 yX9_copy yX9_copy ∈ pm_tbl := pm_m (lw_in3 (List.mem_of_getElem? (i := 58) rfl)) rfl
set_option maxRecDepth 100000 in
theorem wm_581 : Cond.code yX9_copy cX9_copy 8 (some .int) ∈ pm_tbl := pm_m (lw_in3 (List.mem_of_getElem? (i := 59) rfl)) rfl
set_option maxRecDepth 100000 in
theorem wm_582 : Cond.methodLink RX9 212 yX0_hasBytes ∈ pm_tbl := pm_m (lw_in3 (List.mem_of_getElem? (i := 60) rfl)) rfl
set_option maxRecDepth 100000 in
theorem wm_583 : Cond.instanceMethod yX0_hasBytes ∈ pm_tbl := pm_m (lw_in3 (List.mem_of_getElem? (i := 61) rfl)) rfl
set_option maxRecDepth 100000 in
theorem wm_584 : Cond.selects RX0 yX0_hasBytes yX0_hasBytes ∈ pm_tbl := pm_m (lw_in3 (List.mem_of_getElem? (i := 62) rfl)) rfl
set_option maxRecDepth 100000 in
theorem wm_585 : Cond.code yX0_hasBytes cX0_hasBytes 3 (some .boolean) ∈ pm_tbl := pm_m (lw_in3 (List.mem_of_getElem? (i := 63) rfl)) rfl
set_option maxRecDepth 100000 in
theorem wm_586 : Cond.methodLink RX9 215 ⟨"java/lang/System", "arraycopy", "(Ljava/lang/Object;ILjava/lang/Object;II)V"⟩ ∈ pm_tbl := pm_m (lw_in3 (List.mem_of_getElem? (i := 64) rfl)) rfl
set_option maxRecDepth 100000 in
theorem wm_587 : Cond.methodLink RL 109 yX9_misfits ∈ pm_tbl := pm_m (lw_in3 (List.mem_of_getElem? (i := 65) rfl)) rfl
set_option maxRecDepth 100000 in
theorem wm_588 : Cond.instanceMethod yX9_misfits ∈ pm_tbl := pm_m (lw_in3 (List.mem_of_getElem? (i := 66) rfl)) rfl
set_option maxRecDepth 100000 in
theorem wm_589 : Cond.selects RX9 yX9_misfits yX9_misfits ∈ pm_tbl := pm_m (lw_in3 (List.mem_of_getElem? (i := 67) rfl)) rfl
set_option maxRecDepth 100000 in
theorem wm_590 : Cond.code yX9_misfits cX9_misfits 4 (some .int) ∈ pm_tbl := pm_m (lw_in3 (List.mem_of_getElem? (i := 68) rfl)) rfl
set_option maxRecDepth 100000 in
theorem wm_591 : Cond.methodLink RX9 221 yX9_isOrder ∈ pm_tbl := pm_m (lw_in3 (List.mem_of_getElem? (i := 69) rfl)) rfl
set_option maxRecDepth 100000 in
theorem wm_592 : Cond.static yX9_isOrder ∈ pm_tbl := pm_m (lw_in3 (List.mem_of_getElem? (i := 70) rfl)) rfl
set_option maxRecDepth 100000 in
theorem wm_593 : Cond.code yX9_isOrder cX9_isOrder 1 (some .boolean) ∈ pm_tbl := pm_m (lw_in3 (List.mem_of_getElem? (i := 71) rfl)) rfl
set_option maxRecDepth 100000 in
theorem wm_594 : Cond.methodLink RX9 224 yX0_misfitsIn ∈ pm_tbl := pm_m (lw_in3 (List.mem_of_getElem? (i := 72) rfl)) rfl
set_option maxRecDepth 100000 in
theorem wm_595 : Cond.instanceMethod yX0_misfitsIn ∈ pm_tbl := pm_m (lw_in3 (List.mem_of_getElem? (i := 73) rfl)) rfl
set_option maxRecDepth 100000 in
theorem wm_596 : Cond.selects RX0 yX0_misfitsIn yX0_misfitsIn ∈ pm_tbl := pm_m (lw_in3 (List.mem_of_getElem? (i := 74) rfl)) rfl
set_option maxRecDepth 100000 in
theorem wm_597 : Cond.code yX0_misfitsIn cX0_misfitsIn 4 (some .int) ∈ pm_tbl := pm_m (lw_in3 (List.mem_of_getElem? (i := 75) rfl)) rfl
set_option maxRecDepth 100000 in
theorem wm_598 : Cond.methodLink RX0 25 yX0_isMisfit ∈ pm_tbl := pm_m (lw_in3 (List.mem_of_getElem? (i := 76) rfl)) rfl
set_option maxRecDepth 100000 in
theorem wm_600 : Cond.instanceMethod yX0_isMisfit ∈ pm_tbl := pm_m (lw_in3 (List.mem_of_getElem? (i := 78) rfl)) rfl
set_option maxRecDepth 100000 in
theorem wm_601 : Cond.code yX0_isMisfit cX0_isMisfit 3 (some .boolean) ∈ pm_tbl := pm_m (lw_in3 (List.mem_of_getElem? (i := 79) rfl)) rfl
set_option maxRecDepth 100000 in
theorem wm_602 : Cond.methodLink RX0 49 yX0_isMisfitPair ∈ pm_tbl := pm_m (lw_in3 (List.mem_of_getElem? (i := 80) rfl)) rfl
set_option maxRecDepth 100000 in
theorem wm_604 : Cond.instanceMethod yX0_isMisfitPair ∈ pm_tbl := pm_m (lw_in3 (List.mem_of_getElem? (i := 82) rfl)) rfl
set_option maxRecDepth 100000 in
theorem wm_605 : Cond.code yX0_isMisfitPair cX0_isMisfitPair 3 (some .boolean) ∈ pm_tbl := pm_m (lw_in3 (List.mem_of_getElem? (i := 83) rfl)) rfl
set_option maxRecDepth 100000 in
theorem wm_606 : Cond.methodLinkNest RX0 29 yX9_isNumber RX9 ∈ pm_tbl := pm_m (lw_in3 (List.mem_of_getElem? (i := 84) rfl)) rfl
set_option maxRecDepth 100000 in
theorem wm_607 : Cond.methodLinkNest RX0 52 yX9_turnedBits RX9 ∈ pm_tbl := pm_m (lw_in3 (List.mem_of_getElem? (i := 85) rfl)) rfl
set_option maxRecDepth 100000 in
theorem wm_608 : Cond.methodLinkNest RX0 55 yX9_oppositeBits RX9 ∈ pm_tbl := pm_m (lw_in3 (List.mem_of_getElem? (i := 86) rfl)) rfl
set_option maxRecDepth 100000 in
theorem wm_609 : Cond.methodLink RL 113 yX9_follows ∈ pm_tbl := pm_m (lw_in3 (List.mem_of_getElem? (i := 87) rfl)) rfl
set_option maxRecDepth 100000 in
theorem wm_610 : Cond.instanceMethod yX9_follows ∈ pm_tbl := pm_m (lw_in3 (List.mem_of_getElem? (i := 88) rfl)) rfl
set_option maxRecDepth 100000 in
theorem wm_611 : Cond.selects RX9 yX9_follows yX9_follows ∈ pm_tbl := pm_m (lw_in3 (List.mem_of_getElem? (i := 89) rfl)) rfl
set_option maxRecDepth 100000 in
theorem wm_612 : Cond.code yX9_follows cX9_follows 7 (some .int) ∈ pm_tbl := pm_m (lw_in3 (List.mem_of_getElem? (i := 90) rfl)) rfl
set_option maxRecDepth 100000 in
theorem wm_613 : Cond.methodLink RL 117 yX9_lacks ∈ pm_tbl := pm_m (lw_in3 (List.mem_of_getElem? (i := 91) rfl)) rfl
set_option maxRecDepth 100000 in
theorem wm_614 : Cond.instanceMethod yX9_lacks ∈ pm_tbl := pm_m (lw_in3 (List.mem_of_getElem? (i := 92) rfl)) rfl
set_option maxRecDepth 100000 in
theorem wm_615 : Cond.selects RX9 yX9_lacks yX9_lacks ∈ pm_tbl := pm_m (lw_in3 (List.mem_of_getElem? (i := 93) rfl)) rfl
set_option maxRecDepth 100000 in
theorem wm_616 : Cond.code yX9_lacks cX9_lacks 3 (some .int) ∈ pm_tbl := pm_m (lw_in3 (List.mem_of_getElem? (i := 94) rfl)) rfl
set_option maxRecDepth 100000 in
theorem wm_617 : Cond.methodLink RX9 227 yX0_numbersThere ∈ pm_tbl := pm_m (lw_in3 (List.mem_of_getElem? (i := 95) rfl)) rfl
set_option maxRecDepth 100000 in
theorem wm_618 : Cond.instanceMethod yX0_numbersThere ∈ pm_tbl := pm_m (lw_in3 (List.mem_of_getElem? (i := 96) rfl)) rfl
set_option maxRecDepth 100000 in
theorem wm_619 : Cond.selects RX0 yX0_numbersThere yX0_numbersThere ∈ pm_tbl := pm_m (lw_in3 (List.mem_of_getElem? (i := 97) rfl)) rfl
set_option maxRecDepth 100000 in
theorem wm_620 : Cond.code yX0_numbersThere cX0_numbersThere 4 (some .long) ∈ pm_tbl := pm_m (lw_in3 (List.mem_of_getElem? (i := 98) rfl)) rfl
set_option maxRecDepth 100000 in
theorem wm_621 : Cond.constantLong RX9 231 (-1) ∈ pm_tbl := pm_m (lw_in3 (List.mem_of_getElem? (i := 99) rfl)) rfl
set_option maxRecDepth 100000 in
theorem wm_622 : Cond.methodLink RX9 233 yJ13_bitCount_95d88 ∈ pm_tbl := pm_m (lw_in3 (List.mem_of_getElem? (i := 100) rfl)) rfl
set_option maxRecDepth 100000 in
theorem wm_623 : Cond.static yJ13_bitCount_95d88 ∈ pm_tbl := pm_m (lw_in3 (List.mem_of_getElem? (i := 101) rfl)) rfl
set_option maxRecDepth 100000 in
theorem wm_624 : Cond.code yJ13_bitCount_95d88 cJ13_bitCount_95d88 2 (some .int) ∈ pm_tbl := pm_m (lw_in3 (List.mem_of_getElem? (i := 102) rfl)) rfl
set_option maxRecDepth 100000 in
theorem wm_625 : Cond.constantLong RJ13 314 (6148914691236517205) ∈ pm_tbl := pm_m (lw_in3 (List.mem_of_getElem? (i := 103) rfl)) rfl
set_option maxRecDepth 100000 in
theorem wm_626 : Cond.constantLong RJ13 316 (3689348814741910323) ∈ pm_tbl := pm_m (lw_in3 (List.mem_of_getElem? (i := 104) rfl)) rfl
set_option maxRecDepth 100000 in
theorem wm_627 : Cond.constantLong RJ13 318 (1085102592571150095) ∈ pm_tbl := pm_m (lw_in3 (List.mem_of_getElem? (i := 105) rfl)) rfl
set_option maxRecDepth 100000 in
theorem wm_628 : Cond.methodLink RL 121 yX9_swapped ∈ pm_tbl := pm_m (lw_in3 (List.mem_of_getElem? (i := 106) rfl)) rfl
set_option maxRecDepth 100000 in
theorem wm_629 : Cond.instanceMethod yX9_swapped ∈ pm_tbl := pm_m (lw_in3 (List.mem_of_getElem? (i := 107) rfl)) rfl
set_option maxRecDepth 100000 in
theorem wm_630 : Cond.selects RX9 yX9_swapped yX9_swapped ∈ pm_tbl := pm_m (lw_in3 (List.mem_of_getElem? (i := 108) rfl)) rfl
set_option maxRecDepth 100000 in
theorem wm_631 : Cond.code yX9_swapped cX9_swapped 4 (some .int) ∈ pm_tbl := pm_m (lw_in3 (List.mem_of_getElem? (i := 109) rfl)) rfl
set_option maxRecDepth 100000 in
theorem wm_632 : Cond.methodLink RX9 239 yX0_mendingSwap ∈ pm_tbl := pm_m (lw_in3 (List.mem_of_getElem? (i := 110) rfl)) rfl
set_option maxRecDepth 100000 in
theorem wm_633 : Cond.instanceMethod yX0_mendingSwap ∈ pm_tbl := pm_m (lw_in3 (List.mem_of_getElem? (i := 111) rfl)) rfl
set_option maxRecDepth 100000 in
theorem wm_634 : Cond.selects RX0 yX0_mendingSwap yX0_mendingSwap ∈ pm_tbl := pm_m (lw_in3 (List.mem_of_getElem? (i := 112) rfl)) rfl
set_option maxRecDepth 100000 in
theorem wm_635 : Cond.code yX0_mendingSwap cX0_mendingSwap 5 (some .int) ∈ pm_tbl := pm_m (lw_in3 (List.mem_of_getElem? (i := 113) rfl)) rfl
set_option maxRecDepth 100000 in
theorem wm_636 : Cond.methodLink RX0 33 yX0_misfitsIn ∈ pm_tbl := pm_m (lw_in3 (List.mem_of_getElem? (i := 114) rfl)) rfl
set_option maxRecDepth 100000 in
theorem wm_637 : Cond.methodLink RX0 37 yX0_isMendedBy ∈ pm_tbl := pm_m (lw_in3 (List.mem_of_getElem? (i := 115) rfl)) rfl
set_option maxRecDepth 100000 in
theorem wm_639 : Cond.instanceMethod yX0_isMendedBy ∈ pm_tbl := pm_m (lw_in3 (List.mem_of_getElem? (i := 117) rfl)) rfl
set_option maxRecDepth 100000 in
theorem wm_640 : Cond.code yX0_isMendedBy cX0_isMendedBy 5 (some .boolean) ∈ pm_tbl := pm_m (lw_in3 (List.mem_of_getElem? (i := 118) rfl)) rfl
set_option maxRecDepth 100000 in
theorem wm_641 : Cond.methodLink RX0 45 yX0_changePlaces ∈ pm_tbl := pm_m (lw_in3 (List.mem_of_getElem? (i := 119) rfl)) rfl
set_option maxRecDepth 100000 in
theorem wm_643 : Cond.instanceMethod yX0_changePlaces ∈ pm_tbl := pm_m (lw_in3 (List.mem_of_getElem? (i := 121) rfl)) rfl
set_option maxRecDepth 100000 in
theorem wm_644 : Cond.code yX0_changePlaces cX0_changePlaces 4 none ∈ pm_tbl := pm_m (lw_in3 (List.mem_of_getElem? (i := 122) rfl)) rfl
set_option maxRecDepth 100000 in
theorem wm_645 : Cond.methodLink RL 125 yX9_record ∈ pm_tbl := pm_m (lw_in3 (List.mem_of_getElem? (i := 123) rfl)) rfl
set_option maxRecDepth 100000 in
theorem wm_646 : Cond.instanceMethod yX9_record ∈ pm_tbl := pm_m (lw_in3 (List.mem_of_getElem? (i := 124) rfl)) rfl
set_option maxRecDepth 100000 in
theorem wm_647 : Cond.selects RX9 yX9_record yX9_record ∈ pm_tbl := pm_m (lw_in3 (List.mem_of_getElem? (i := 125) rfl)) rfl
set_option maxRecDepth 100000 in
theorem wm_648 : Cond.code yX9_record cX9_record 9 (some .int) ∈ pm_tbl := pm_m (lw_in3 (List.mem_of_getElem? (i := 126) rfl)) rfl
set_option maxRecDepth 100000 in
theorem wm_649 : Cond.methodLink RL 130 yX9_off ∈ pm_tbl := pm_m (lw_in3 (List.mem_of_getElem? (i := 127) rfl)) rfl
set_option maxRecDepth 100000 in
theorem wm_650 : Cond.instanceMethod yX9_off ∈ pm_tbl := pm_m (lw_in3 (List.mem_of_getElem? (i := 128) rfl)) rfl
set_option maxRecDepth 100000 in
theorem wm_651 : Cond.selects RX9 yX9_off yX9_off ∈ pm_tbl := pm_m (lw_in3 (List.mem_of_getElem? (i := 129) rfl)) rfl
set_option maxRecDepth 100000 in
theorem wm_652 : Cond.code yX9_off cX9_off 5 (some .int) ∈ pm_tbl := pm_m (lw_in3 (List.mem_of_getElem? (i := 130) rfl)) rfl
set_option maxRecDepth 100000 in
theorem wm_653 : Cond.methodLink RX9 242 yX0_partsInto ∈ pm_tbl := pm_m (lw_in3 (List.mem_of_getElem? (i := 131) rfl)) rfl
set_option maxRecDepth 100000 in
theorem wm_654 : Cond.instanceMethod yX0_partsInto ∈ pm_tbl := pm_m (lw_in3 (List.mem_of_getElem? (i := 132) rfl)) rfl
set_option maxRecDepth 100000 in
theorem wm_655 : Cond.selects RX0 yX0_partsInto yX0_partsInto ∈ pm_tbl := pm_m (lw_in3 (List.mem_of_getElem? (i := 133) rfl)) rfl
set_option maxRecDepth 100000 in
theorem wm_656 : Cond.code yX0_partsInto cX0_partsInto 4 (some .boolean) ∈ pm_tbl := pm_m (lw_in3 (List.mem_of_getElem? (i := 134) rfl)) rfl
set_option maxRecDepth 100000 in
theorem wm_657 : Cond.methodLink RX0 41 yJ7_fill_53178 ∈ pm_tbl := pm_m (lw_in3 (List.mem_of_getElem? (i := 135) rfl)) rfl
set_option maxRecDepth 100000 in
theorem wm_658 : Cond.constant RX0 44 (1000000) ∈ pm_tbl := pm_m (lw_in3 (List.mem_of_getElem? (i := 136) rfl)) rfl
set_option maxRecDepth 100000 in
theorem wm_659 : Cond.methodLink RX9 246 yX9_offOf ∈ pm_tbl := pm_m (lw_in3 (List.mem_of_getElem? (i := 137) rfl)) rfl
set_option maxRecDepth 100000 in
theorem wm_661 : Cond.instanceMethod yX9_offOf ∈ pm_tbl := pm_m (lw_in3 (List.mem_of_getElem? (i := 139) rfl)) rfl
set_option maxRecDepth 100000 in
theorem wm_662 : Cond.code yX9_offOf cX9_offOf 2 (some .int) ∈ pm_tbl := pm_m (lw_in3 (List.mem_of_getElem? (i := 140) rfl)) rfl
set_option maxRecDepth 100000 in
theorem wm_663 : Cond.constant RX9 278 (2000000) ∈ pm_tbl := pm_m (lw_in3 (List.mem_of_getElem? (i := 141) rfl)) rfl
set_option maxRecDepth 100000 in
theorem wm_664 : Cond.methodLink RX9 254 yX9_weighedDiffer ∈ pm_tbl := pm_m (lw_in3 (List.mem_of_getElem? (i := 142) rfl)) rfl
set_option maxRecDepth 100000 in
theorem wm_666 : Cond.instanceMethod yX9_weighedDiffer ∈ pm_tbl := pm_m (lw_in3 (List.mem_of_getElem? (i := 144) rfl)) rfl
set_option maxRecDepth 100000 in
theorem wm_667 : Cond.code yX9_weighedDiffer cX9_weighedDiffer 3 (some .int) ∈ pm_tbl := pm_m (lw_in3 (List.mem_of_getElem? (i := 145) rfl)) rfl
set_option maxRecDepth 100000 in
theorem wm_668 : Cond.methodLink RX9 257 yX4_partsInto ∈ pm_tbl := pm_m (lw_in3 (List.mem_of_getElem? (i := 146) rfl)) rfl
set_option maxRecDepth 100000 in
theorem wm_669 : Cond.instanceMethod yX4_partsInto ∈ pm_tbl := pm_m (lw_in3 (List.mem_of_getElem? (i := 147) rfl)) rfl
set_option maxRecDepth 100000 in
theorem wm_670 : Cond.selects RX4 yX4_partsInto yX4_partsInto ∈ pm_tbl := pm_m (lw_in3 (List.mem_of_getElem? (i := 148) rfl)) rfl
set_option maxRecDepth 100000 in
theorem wm_671 : Cond.code yX4_partsInto cX4_partsInto 3 none ∈ pm_tbl := pm_m (lw_in3 (List.mem_of_getElem? (i := 149) rfl)) rfl
set_option maxRecDepth 100000 in
theorem wm_672 : Cond.constantLong RX4 35 (1000000) ∈ pm_tbl := pm_m (lw_in3 (List.mem_of_getElem? (i := 150) rfl)) rfl
set_option maxRecDepth 100000 in
theorem wm_673 : Cond.methodLink RX9 279 yJ9_abs_0f7a4 ∈ pm_tbl := pm_m (lw_in3 (List.mem_of_getElem? (i := 151) rfl)) rfl
set_option maxRecDepth 100000 in
theorem wm_674 : Cond.static yJ9_abs_0f7a4 ∈ pm_tbl := pm_m (lw_in3 (List.mem_of_getElem? (i := 152) rfl)) rfl
set_option maxRecDepth 100000 in
theorem wm_675 : Cond.code yJ9_abs_0f7a4 cJ9_abs_0f7a4 1 (some .int) ∈ pm_tbl := pm_m (lw_in3 (List.mem_of_getElem? (i := 153) rfl)) rfl
set_option maxRecDepth 100000 in
theorem wm_676 : Cond.methodLink RL 134 yX9_nearest ∈ pm_tbl := pm_m (lw_in3 (List.mem_of_getElem? (i := 154) rfl)) rfl
set_option maxRecDepth 100000 in
theorem wm_677 : Cond.instanceMethod yX9_nearest ∈ pm_tbl := pm_m (lw_in3 (List.mem_of_getElem? (i := 155) rfl)) rfl
set_option maxRecDepth 100000 in
theorem wm_678 : Cond.selects RX9 yX9_nearest yX9_nearest ∈ pm_tbl := pm_m (lw_in3 (List.mem_of_getElem? (i := 156) rfl)) rfl
set_option maxRecDepth 100000 in
theorem wm_679 : Cond.code yX9_nearest cX9_nearest 7 (some .int) ∈ pm_tbl := pm_m (lw_in3 (List.mem_of_getElem? (i := 157) rfl)) rfl
set_option maxRecDepth 100000 in
theorem wm_680 : Cond.constant RX9 249 (2000001) ∈ pm_tbl := pm_m (lw_in3 (List.mem_of_getElem? (i := 158) rfl)) rfl
set_option maxRecDepth 100000 in
theorem wm_681 : Cond.methodLink RL 138 yX9_lost ∈ pm_tbl := pm_m (lw_in3 (List.mem_of_getElem? (i := 159) rfl)) rfl
set_option maxRecDepth 100000 in
theorem wm_682 : Cond.instanceMethod yX9_lost ∈ pm_tbl := pm_m (lw_in3 (List.mem_of_getElem? (i := 160) rfl)) rfl
set_option maxRecDepth 100000 in
theorem wm_683 : Cond.selects RX9 yX9_lost yX9_lost ∈ pm_tbl := pm_m (lw_in3 (List.mem_of_getElem? (i := 161) rfl)) rfl
set_option maxRecDepth 100000 in
theorem wm_684 : Cond.code yX9_lost cX9_lost 10 (some .int) ∈ pm_tbl := pm_m (lw_in3 (List.mem_of_getElem? (i := 162) rfl)) rfl
set_option maxRecDepth 100000 in
theorem wm_685 : Cond.methodLink RX9 250 yX6_weighBundle ∈ pm_tbl := pm_m (lw_in3 (List.mem_of_getElem? (i := 163) rfl)) rfl
set_option maxRecDepth 100000 in
theorem wm_686 : Cond.methodLink RL 142 yX9_need ∈ pm_tbl := pm_m (lw_in3 (List.mem_of_getElem? (i := 164) rfl)) rfl
set_option maxRecDepth 100000 in
theorem wm_687 : Cond.instanceMethod yX9_need ∈ pm_tbl := pm_m (lw_in3 (List.mem_of_getElem? (i := 165) rfl)) rfl
set_option maxRecDepth 100000 in
theorem wm_688 : Cond.selects RX9 yX9_need yX9_need ∈ pm_tbl := pm_m (lw_in3 (List.mem_of_getElem? (i := 166) rfl)) rfl
set_option maxRecDepth 100000 in
theorem wm_689 : Cond.code yX9_need cX9_need 6 (some .int) ∈ pm_tbl := pm_m (lw_in3 (List.mem_of_getElem? (i := 167) rfl)) rfl
set_option maxRecDepth 100000 in
theorem wm_690 : Cond.constant RX9 260 (10000000) ∈ pm_tbl := pm_m (lw_in3 (List.mem_of_getElem? (i := 168) rfl)) rfl
set_option maxRecDepth 100000 in
theorem wm_691 : Cond.methodLink RL 146 yX9_asked ∈ pm_tbl := pm_m (lw_in3 (List.mem_of_getElem? (i := 169) rfl)) rfl
set_option maxRecDepth 100000 in
theorem wm_692 : Cond.instanceMethod yX9_asked ∈ pm_tbl := pm_m (lw_in3 (List.mem_of_getElem? (i := 170) rfl)) rfl
set_option maxRecDepth 100000 in
theorem wm_693 : Cond.selects RX9 yX9_asked yX9_asked ∈ pm_tbl := pm_m (lw_in3 (List.mem_of_getElem? (i := 171) rfl)) rfl
set_option maxRecDepth 100000 in
theorem wm_694 : Cond.code yX9_asked cX9_asked 1 (some .long) ∈ pm_tbl := pm_m (lw_in3 (List.mem_of_getElem? (i := 172) rfl)) rfl
set_option maxRecDepth 100000 in
theorem wm_695 : Cond.methodLink RL 151 yX9_upper ∈ pm_tbl := pm_m (lw_in3 (List.mem_of_getElem? (i := 173) rfl)) rfl
set_option maxRecDepth 100000 in
theorem wm_696 : Cond.instanceMethod yX9_upper ∈ pm_tbl := pm_m (lw_in3 (List.mem_of_getElem? (i := 174) rfl)) rfl
set_option maxRecDepth 100000 in
theorem wm_697 : Cond.selects RX9 yX9_upper yX9_upper ∈ pm_tbl := pm_m (lw_in3 (List.mem_of_getElem? (i := 175) rfl)) rfl
set_option maxRecDepth 100000 in
theorem wm_698 : Cond.code yX9_upper cX9_upper 1 (some .long) ∈ pm_tbl := pm_m (lw_in3 (List.mem_of_getElem? (i := 176) rfl)) rfl
set_option maxRecDepth 100000 in
theorem wm_699 : Cond.methodLink RL 155 yX9_lower ∈ pm_tbl := pm_m (lw_in3 (List.mem_of_getElem? (i := 177) rfl)) rfl
set_option maxRecDepth 100000 in
theorem wm_700 : Cond.instanceMethod yX9_lower ∈ pm_tbl := pm_m (lw_in3 (List.mem_of_getElem? (i := 178) rfl)) rfl
set_option maxRecDepth 100000 in
theorem wm_701 : Cond.selects RX9 yX9_lower yX9_lower ∈ pm_tbl := pm_m (lw_in3 (List.mem_of_getElem? (i := 179) rfl)) rfl
set_option maxRecDepth 100000 in
theorem wm_702 : Cond.code yX9_lower cX9_lower 1 (some .long) ∈ pm_tbl := pm_m (lw_in3 (List.mem_of_getElem? (i := 180) rfl)) rfl
set_option maxRecDepth 100000 in
theorem wm_703 : Cond.methodLink RL 159 yX9_count ∈ pm_tbl := pm_m (lw_in3 (List.mem_of_getElem? (i := 181) rfl)) rfl
set_option maxRecDepth 100000 in
theorem wm_704 : Cond.instanceMethod yX9_count ∈ pm_tbl := pm_m (lw_in3 (List.mem_of_getElem? (i := 182) rfl)) rfl
set_option maxRecDepth 100000 in
theorem wm_705 : Cond.selects RX9 yX9_count yX9_count ∈ pm_tbl := pm_m (lw_in3 (List.mem_of_getElem? (i := 183) rfl)) rfl
set_option maxRecDepth 100000 in
theorem wm_706 : Cond.code yX9_count cX9_count 2 (some .int) ∈ pm_tbl := pm_m (lw_in3 (List.mem_of_getElem? (i := 184) rfl)) rfl
set_option maxRecDepth 100000 in
theorem wm_707 : Cond.methodLink RX9 261 yX9_rowsThere ∈ pm_tbl := pm_m (lw_in3 (List.mem_of_getElem? (i := 185) rfl)) rfl
set_option maxRecDepth 100000 in
theorem wm_709 : Cond.instanceMethod yX9_rowsThere ∈ pm_tbl := pm_m (lw_in3 (List.mem_of_getElem? (i := 187) rfl)) rfl
set_option maxRecDepth 100000 in
theorem wm_710 : Cond.code yX9_rowsThere cX9_rowsThere 3 (some .int) ∈ pm_tbl := pm_m (lw_in3 (List.mem_of_getElem? (i := 188) rfl)) rfl
set_option maxRecDepth 100000 in
theorem wm_711 : Cond.methodLink RX9 264 yX9_oldLinesOfAll ∈ pm_tbl := pm_m (lw_in3 (List.mem_of_getElem? (i := 189) rfl)) rfl
set_option maxRecDepth 100000 in
theorem wm_713 : Cond.instanceMethod yX9_oldLinesOfAll ∈ pm_tbl := pm_m (lw_in3 (List.mem_of_getElem? (i := 191) rfl)) rfl
set_option maxRecDepth 100000 in
theorem wm_714 : Cond.code yX9_oldLinesOfAll cX9_oldLinesOfAll 3 (some .int) ∈ pm_tbl := pm_m (lw_in3 (List.mem_of_getElem? (i := 192) rfl)) rfl
set_option maxRecDepth 100000 in
theorem wm_715 : Cond.methodLink RL 163 yX9_finding ∈ pm_tbl := pm_m (lw_in3 (List.mem_of_getElem? (i := 193) rfl)) rfl
set_option maxRecDepth 100000 in
theorem wm_716 : Cond.instanceMethod yX9_finding ∈ pm_tbl := pm_m (lw_in3 (List.mem_of_getElem? (i := 194) rfl)) rfl
set_option maxRecDepth 100000 in
theorem wm_717 : Cond.selects RX9 yX9_finding yX9_finding ∈ pm_tbl := pm_m (lw_in3 (List.mem_of_getElem? (i := 195) rfl)) rfl
set_option maxRecDepth 100000 in
theorem wm_718 : Cond.code yX9_finding cX9_finding 1 (some .int) ∈ pm_tbl := pm_m (lw_in3 (List.mem_of_getElem? (i := 196) rfl)) rfl
set_option maxRecDepth 100000 in
theorem wm_719 : Cond.methodLink RL 168 yX9_findings ∈ pm_tbl := pm_m (lw_in3 (List.mem_of_getElem? (i := 197) rfl)) rfl
set_option maxRecDepth 100000 in
theorem wm_720 : Cond.instanceMethod yX9_findings ∈ pm_tbl := pm_m (lw_in3 (List.mem_of_getElem? (i := 198) rfl)) rfl
set_option maxRecDepth 100000 in
theorem wm_721 : Cond.selects RX9 yX9_findings yX9_findings ∈ pm_tbl := pm_m (lw_in3 (List.mem_of_getElem? (i := 199) rfl)) rfl
set_option maxRecDepth 100000 in
theorem wm_722 : Cond.code yX9_findings cX9_findings 2 (some .int) ∈ pm_tbl := pm_m (lw_in3 (List.mem_of_getElem? (i := 200) rfl)) rfl
set_option maxRecDepth 100000 in
theorem wm_723 : Cond.methodLink RL 172 yX9_digest ∈ pm_tbl := pm_m (lw_in3 (List.mem_of_getElem? (i := 201) rfl)) rfl
set_option maxRecDepth 100000 in
theorem wm_724 : Cond.instanceMethod yX9_digest ∈ pm_tbl := pm_m (lw_in3 (List.mem_of_getElem? (i := 202) rfl)) rfl
set_option maxRecDepth 100000 in
theorem wm_725 : Cond.selects RX9 yX9_digest yX9_digest ∈ pm_tbl := pm_m (lw_in3 (List.mem_of_getElem? (i := 203) rfl)) rfl
set_option maxRecDepth 100000 in
theorem wm_726 : Cond.code yX9_digest cX9_digest 5 (some .long) ∈ pm_tbl := pm_m (lw_in3 (List.mem_of_getElem? (i := 204) rfl)) rfl
set_option maxRecDepth 100000 in
theorem wm_727 : Cond.constantLong RX9 267 (17) ∈ pm_tbl := pm_m (lw_in3 (List.mem_of_getElem? (i := 205) rfl)) rfl
set_option maxRecDepth 100000 in
theorem wm_728 : Cond.constantLong RX9 269 (31) ∈ pm_tbl := pm_m (lw_in3 (List.mem_of_getElem? (i := 206) rfl)) rfl
set_option maxRecDepth 100000 in
theorem wm_729 : Cond.methodLink RX9 271 yX9_told ∈ pm_tbl := pm_m (lw_in3 (List.mem_of_getElem? (i := 207) rfl)) rfl
set_option maxRecDepth 100000 in
theorem wm_730 : Cond.classLink RL 10 RX10 ∈ pm_tbl := pm_m (lw_in3 (List.mem_of_getElem? (i := 208) rfl)) rfl
set_option maxRecDepth 100000 in
theorem wm_731 : Cond.instantiable RX10 33 ∈ pm_tbl := pm_m (lw_in3 (List.mem_of_getElem? (i := 209) rfl)) rfl
set_option maxRecDepth 100000 in
theorem wm_732 : Cond.methodLink RL 12 yX10_init ∈ pm_tbl := pm_m (lw_in3 (List.mem_of_getElem? (i := 210) rfl)) rfl
set_option maxRecDepth 100000 in
theorem wm_733 : Cond.instanceMethod yX10_init ∈ pm_tbl := pm_m (lw_in3 (List.mem_of_getElem? (i := 211) rfl)) rfl
set_option maxRecDepth 100000 in
theorem wm_734 : Cond.code yX10_init cX10_init 2 none ∈ pm_tbl := pm_m (lw_in3 (List.mem_of_getElem? (i := 212) rfl)) rfl
set_option maxRecDepth 100000 in
theorem wm_735 : Cond.methodLink RX10 1 ⟨"java/lang/Object", "<init>", "()V"⟩ ∈ pm_tbl := pm_m (lw_in3 (List.mem_of_getElem? (i := 213) rfl)) rfl
set_option maxRecDepth 100000 in
theorem wm_736 : Cond.fieldLink RX10 89 RX10 "finding" "I" ∈ pm_tbl := pm_m (lw_in3 (List.mem_of_getElem? (i := 214) rfl)) rfl
set_option maxRecDepth 100000 in
theorem wm_737 : Cond.fieldLink RX10 7 RX10 "findings" "[I" ∈ pm_tbl := pm_m (lw_in3 (List.mem_of_getElem? (i := 215) rfl)) rfl
set_option maxRecDepth 100000 in
theorem wm_738 : Cond.fieldLink RX10 210 RX10 "asked" "J" ∈ pm_tbl := pm_m (lw_in3 (List.mem_of_getElem? (i := 216) rfl)) rfl
set_option maxRecDepth 100000 in
theorem wm_739 : Cond.fieldLink RX10 96 RX10 "upper" "J" ∈ pm_tbl := pm_m (lw_in3 (List.mem_of_getElem? (i := 217) rfl)) rfl
set_option maxRecDepth 100000 in
theorem wm_740 : Cond.fieldLink RX10 13 RX10 "lower" "J" ∈ pm_tbl := pm_m (lw_in3 (List.mem_of_getElem? (i := 218) rfl)) rfl
set_option maxRecDepth 100000 in
theorem wm_741 : Cond.fieldLink RX10 99 RX10 "casters" "I" ∈ pm_tbl := pm_m (lw_in3 (List.mem_of_getElem? (i := 219) rfl)) rfl
set_option maxRecDepth 100000 in
theorem wm_742 : Cond.fieldLink RX10 17 RX10 "kinds" "[I" ∈ pm_tbl := pm_m (lw_in3 (List.mem_of_getElem? (i := 220) rfl)) rfl
set_option maxRecDepth 100000 in
theorem wm_743 : Cond.fieldLink RX10 20 RX10 "sticks" "[I" ∈ pm_tbl := pm_m (lw_in3 (List.mem_of_getElem? (i := 221) rfl)) rfl
set_option maxRecDepth 100000 in
theorem wm_744 : Cond.fieldLink RX10 23 RX10 "counts" "[I" ∈ pm_tbl := pm_m (lw_in3 (List.mem_of_getElem? (i := 222) rfl)) rfl
set_option maxRecDepth 100000 in
theorem wm_745 : Cond.fieldLink RX10 26 RX10 "hasFinger" "[Z" ∈ pm_tbl := pm_m (lw_in3 (List.mem_of_getElem? (i := 223) rfl)) rfl
set_option maxRecDepth 100000 in
theorem wm_746 : Cond.fieldLink RX10 30 RX10 "lows" "[I" ∈ pm_tbl := pm_m (lw_in3 (List.mem_of_getElem? (i := 224) rfl)) rfl
set_option maxRecDepth 100000 in
theorem wm_747 : Cond.fieldLink RX10 33 RX10 "highs" "[I" ∈ pm_tbl := pm_m (lw_in3 (List.mem_of_getElem? (i := 225) rfl)) rfl
set_option maxRecDepth 100000 in
theorem wm_748 : Cond.fieldLink RX10 36 RX10 "ups" "[J" ∈ pm_tbl := pm_m (lw_in3 (List.mem_of_getElem? (i := 226) rfl)) rfl
set_option maxRecDepth 100000 in
theorem wm_749 : Cond.fieldLink RX10 40 RX10 "lowers" "[J" ∈ pm_tbl := pm_m (lw_in3 (List.mem_of_getElem? (i := 227) rfl)) rfl
set_option maxRecDepth 100000 in
theorem wm_750 : Cond.fieldLink RX10 43 RX10 "nextUps" "[J" ∈ pm_tbl := pm_m (lw_in3 (List.mem_of_getElem? (i := 228) rfl)) rfl
set_option maxRecDepth 100000 in
theorem wm_751 : Cond.fieldLink RX10 46 RX10 "nextLowers" "[J" ∈ pm_tbl := pm_m (lw_in3 (List.mem_of_getElem? (i := 229) rfl)) rfl
set_option maxRecDepth 100000 in
theorem wm_752 : Cond.fieldLink RX10 49 RX10 "oddsUp" "[J" ∈ pm_tbl := pm_m (lw_in3 (List.mem_of_getElem? (i := 230) rfl)) rfl
set_option maxRecDepth 100000 in
theorem wm_753 : Cond.fieldLink RX10 52 RX10 "oddsLow" "[J" ∈ pm_tbl := pm_m (lw_in3 (List.mem_of_getElem? (i := 231) rfl)) rfl
set_option maxRecDepth 100000 in
theorem wm_754 : Cond.fieldLink RX10 142 RX10 "sumUp" "J" ∈ pm_tbl := pm_m (lw_in3 (List.mem_of_getElem? (i := 232) rfl)) rfl
set_option maxRecDepth 100000 in
theorem wm_755 : Cond.fieldLink RX10 145 RX10 "sumLow" "J" ∈ pm_tbl := pm_m (lw_in3 (List.mem_of_getElem? (i := 233) rfl)) rfl
set_option maxRecDepth 100000 in
theorem wm_756 : Cond.fieldLink RX10 170 RX10 "seed" "J" ∈ pm_tbl := pm_m (lw_in3 (List.mem_of_getElem? (i := 234) rfl)) rfl
set_option maxRecDepth 100000 in
theorem wm_757 : Cond.fieldLink RX10 55 RX10 "figures" "[I" ∈ pm_tbl := pm_m (lw_in3 (List.mem_of_getElem? (i := 235) rfl)) rfl
set_option maxRecDepth 100000 in
theorem wm_758 : Cond.fieldLink RX10 58 RX10 "six" "[I" ∈ pm_tbl := pm_m (lw_in3 (List.mem_of_getElem? (i := 236) rfl)) rfl
set_option maxRecDepth 100000 in
theorem wm_759 : Cond.fieldLink RX10 61 RX10 "far" "[I" ∈ pm_tbl := pm_m (lw_in3 (List.mem_of_getElem? (i := 237) rfl)) rfl
set_option maxRecDepth 100000 in
theorem wm_760 : Cond.fieldLink RX10 64 RX10 "steps" "I" ∈ pm_tbl := pm_m (lw_in3 (List.mem_of_getElem? (i := 238) rfl)) rfl
set_option maxRecDepth 100000 in
theorem wm_761 : Cond.fieldLink RX10 68 RX10 "stepRow" "[I" ∈ pm_tbl := pm_m (lw_in3 (List.mem_of_getElem? (i := 239) rfl)) rfl
set_option maxRecDepth 100000 in
theorem wm_762 : Cond.fieldLink RX10 71 RX10 "sizes" "[I" ∈ pm_tbl := pm_m (lw_in4 (List.mem_of_getElem? (i := 0) rfl)) rfl
set_option maxRecDepth 100000 in
theorem wm_763 : Cond.fieldLink RX10 74 RX10 "rows" "[I" ∈ pm_tbl := pm_m (lw_in4 (List.mem_of_getElem? (i := 1) rfl)) rfl
set_option maxRecDepth 100000 in
theorem wm_764 : Cond.fieldLink RX10 77 RX10 "moving" "[I" ∈ pm_tbl := pm_m (lw_in4 (List.mem_of_getElem? (i := 2) rfl)) rfl
set_option maxRecDepth 100000 in
theorem wm_765 : Cond.fieldLink RX10 80 RX10 "times" "[I" ∈ pm_tbl := pm_m (lw_in4 (List.mem_of_getElem? (i := 3) rfl)) rfl
set_option maxRecDepth 100000 in
theorem wm_766 : Cond.fieldLink RX10 219 RX10 "counted" "I" ∈ pm_tbl := pm_m (lw_in4 (List.mem_of_getElem? (i := 4) rfl)) rfl
set_option maxRecDepth 100000 in
theorem wm_767 : Cond.fieldLink RX10 83 RX10 "shares" "[I" ∈ pm_tbl := pm_m (lw_in4 (List.mem_of_getElem? (i := 5) rfl)) rfl
set_option maxRecDepth 100000 in
theorem wm_768 : Cond.fieldLink RX10 86 RX10 "held" "[I" ∈ pm_tbl := pm_m (lw_in4 (List.mem_of_getElem? (i := 6) rfl)) rfl
set_option maxRecDepth 100000 in
theorem wm_836 : Cond.arrayClass .boolean ∈ pm_tbl := pm_m (lw_in4 (List.mem_of_getElem? (i := 74) rfl)) rfl
set_option maxRecDepth 100000 in
theorem wm_837 : Cond.methodLink RL 17 yX10_caster ∈ pm_tbl := pm_m (lw_in4 (List.mem_of_getElem? (i := 75) rfl)) rfl
set_option maxRecDepth 100000 in
theorem wm_838 : Cond.instanceMethod yX10_caster ∈ pm_tbl := pm_m (lw_in4 (List.mem_of_getElem? (i := 76) rfl)) rfl
set_option maxRecDepth 100000 in
theorem wm_839 : Cond.selects RX10 yX10_caster yX10_caster ∈ pm_tbl := pm_m (lw_in4 (List.mem_of_getElem? (i := 77) rfl)) rfl
set_option maxRecDepth 100000 in
theorem wm_840 : Cond.code yX10_caster cX10_caster 2 (some .int) ∈ pm_tbl := pm_m (lw_in4 (List.mem_of_getElem? (i := 78) rfl)) rfl
set_option maxRecDepth 100000 in
theorem wm_841 : Cond.methodLink RX10 102 yX10_put ∈ pm_tbl := pm_m (lw_in4 (List.mem_of_getElem? (i := 79) rfl)) rfl
set_option maxRecDepth 100000 in
theorem wm_843 : Cond.instanceMethod yX10_put ∈ pm_tbl := pm_m (lw_in4 (List.mem_of_getElem? (i := 81) rfl)) rfl
set_option maxRecDepth 100000 in
theorem wm_844 : Cond.code yX10_put cX10_put 7 (some .int) ∈ pm_tbl := pm_m (lw_in4 (List.mem_of_getElem? (i := 82) rfl)) rfl
set_option maxRecDepth 100000 in
theorem wm_845 : Cond.methodLink RL 22 yX10_stalks ∈ pm_tbl := pm_m (lw_in4 (List.mem_of_getElem? (i := 83) rfl)) rfl
set_option maxRecDepth 100000 in
theorem wm_846 : Cond.instanceMethod yX10_stalks ∈ pm_tbl := pm_m (lw_in4 (List.mem_of_getElem? (i := 84) rfl)) rfl
set_option maxRecDepth 100000 in
theorem wm_847 : Cond.selects RX10 yX10_stalks yX10_stalks ∈ pm_tbl := pm_m (lw_in4 (List.mem_of_getElem? (i := 85) rfl)) rfl
set_option maxRecDepth 100000 in
theorem wm_848 : Cond.code yX10_stalks cX10_stalks 4 (some .int) ∈ pm_tbl := pm_m (lw_in4 (List.mem_of_getElem? (i := 86) rfl)) rfl
set_option maxRecDepth 100000 in
theorem wm_849 : Cond.methodLink RX10 110 yX10_areStalks ∈ pm_tbl := pm_m (lw_in4 (List.mem_of_getElem? (i := 87) rfl)) rfl
set_option maxRecDepth 100000 in
theorem wm_850 : Cond.static yX10_areStalks ∈ pm_tbl := pm_m (lw_in4 (List.mem_of_getElem? (i := 88) rfl)) rfl
set_option maxRecDepth 100000 in
theorem wm_851 : Cond.code yX10_areStalks cX10_areStalks 2 (some .boolean) ∈ pm_tbl := pm_m (lw_in4 (List.mem_of_getElem? (i := 89) rfl)) rfl
set_option maxRecDepth 100000 in
theorem wm_852 : Cond.methodLink RX10 106 yX10_in ∈ pm_tbl := pm_m (lw_in4 (List.mem_of_getElem? (i := 90) rfl)) rfl
set_option maxRecDepth 100000 in
theorem wm_853 : Cond.static yX10_in ∈ pm_tbl := pm_m (lw_in4 (List.mem_of_getElem? (i := 91) rfl)) rfl
set_option maxRecDepth 100000 in
theorem wm_854 : Cond.code yX10_in cX10_in 3 (some .boolean) ∈ pm_tbl := pm_m (lw_in4 (List.mem_of_getElem? (i := 92) rfl)) rfl
set_option maxRecDepth 100000 in
theorem wm_855 : Cond.methodLink RL 27 yX10_thumb ∈ pm_tbl := pm_m (lw_in4 (List.mem_of_getElem? (i := 93) rfl)) rfl
set_option maxRecDepth 100000 in
theorem wm_856 : Cond.instanceMethod yX10_thumb ∈ pm_tbl := pm_m (lw_in4 (List.mem_of_getElem? (i := 94) rfl)) rfl
set_option maxRecDepth 100000 in
theorem wm_857 : Cond.selects RX10 yX10_thumb yX10_thumb ∈ pm_tbl := pm_m (lw_in4 (List.mem_of_getElem? (i := 95) rfl)) rfl
set_option maxRecDepth 100000 in
theorem wm_858 : Cond.code yX10_thumb cX10_thumb 6 (some .int) ∈ pm_tbl := pm_m (lw_in4 (List.mem_of_getElem? (i := 96) rfl)) rfl
set_option maxRecDepth 100000 in
theorem wm_859 : Cond.methodLink RL 32 yX10_told ∈ pm_tbl := pm_m (lw_in4 (List.mem_of_getElem? (i := 97) rfl)) rfl
set_option maxRecDepth 100000 in
theorem wm_860 : Cond.instanceMethod yX10_told ∈ pm_tbl := pm_m (lw_in4 (List.mem_of_getElem? (i := 98) rfl)) rfl
set_option maxRecDepth 100000 in
theorem wm_861 : Cond.selects RX10 yX10_told yX10_told ∈ pm_tbl := pm_m (lw_in4 (List.mem_of_getElem? (i := 99) rfl)) rfl
set_option maxRecDepth 100000 in
theorem wm_862 : Cond.code yX10_told cX10_told 3 (some .int) ∈ pm_tbl := pm_m (lw_in4 (List.mem_of_getElem? (i := 100) rfl)) rfl
set_option maxRecDepth 100000 in
theorem wm_863 : Cond.methodLink RX10 118 yX10_isCaster ∈ pm_tbl := pm_m (lw_in4 (List.mem_of_getElem? (i := 101) rfl)) rfl
set_option maxRecDepth 100000 in
theorem wm_865 : Cond.instanceMethod yX10_isCaster ∈ pm_tbl := pm_m (lw_in4 (List.mem_of_getElem? (i := 103) rfl)) rfl
set_option maxRecDepth 100000 in
theorem wm_866 : Cond.code yX10_isCaster cX10_isCaster 2 (some .boolean) ∈ pm_tbl := pm_m (lw_in4 (List.mem_of_getElem? (i := 104) rfl)) rfl
set_option maxRecDepth 100000 in
theorem wm_867 : Cond.methodLink RX10 121 yX10_tells ∈ pm_tbl := pm_m (lw_in4 (List.mem_of_getElem? (i := 105) rfl)) rfl
set_option maxRecDepth 100000 in
theorem wm_869 : Cond.instanceMethod yX10_tells ∈ pm_tbl := pm_m (lw_in4 (List.mem_of_getElem? (i := 107) rfl)) rfl
set_option maxRecDepth 100000 in
theorem wm_870 : Cond.code yX10_tells cX10_tells 3 (some .int) ∈ pm_tbl := pm_m (lw_in4 (List.mem_of_getElem? (i := 108) rfl)) rfl
set_option maxRecDepth 100000 in
theorem wm_871 : Cond.methodLink RX10 114 yX10_parts ∈ pm_tbl := pm_m (lw_in4 (List.mem_of_getElem? (i := 109) rfl)) rfl
set_option maxRecDepth 100000 in
theorem wm_873 : Cond.instanceMethod yX10_parts ∈ pm_tbl := pm_m (lw_in4 (List.mem_of_getElem? (i := 111) rfl)) rfl
set_option maxRecDepth 100000 in
theorem wm_874 : Cond.code yX10_parts cX10_parts 2 (some .boolean) ∈ pm_tbl := pm_m (lw_in4 (List.mem_of_getElem? (i := 112) rfl)) rfl
set_option maxRecDepth 100000 in
theorem wm_875 : Cond.methodLink RL 36 yX10_mark ∈ pm_tbl := pm_m (lw_in4 (List.mem_of_getElem? (i := 113) rfl)) rfl
set_option maxRecDepth 100000 in
theorem wm_876 : Cond.instanceMethod yX10_mark ∈ pm_tbl := pm_m (lw_in4 (List.mem_of_getElem? (i := 114) rfl)) rfl
set_option maxRecDepth 100000 in
theorem wm_877 : Cond.selects RX10 yX10_mark yX10_mark ∈ pm_tbl := pm_m (lw_in4 (List.mem_of_getElem? (i := 115) rfl)) rfl
set_option maxRecDepth 100000 in
theorem wm_878 : Cond.code yX10_mark cX10_mark 3 (some .int) ∈ pm_tbl := pm_m (lw_in4 (List.mem_of_getElem? (i := 116) rfl)) rfl
set_option maxRecDepth 100000 in
theorem wm_879 : Cond.methodLink RX10 131 yX10_meets ∈ pm_tbl := pm_m (lw_in4 (List.mem_of_getElem? (i := 117) rfl)) rfl
set_option maxRecDepth 100000 in
theorem wm_881 : Cond.instanceMethod yX10_meets ∈ pm_tbl := pm_m (lw_in4 (List.mem_of_getElem? (i := 119) rfl)) rfl
set_option maxRecDepth 100000 in
theorem wm_882 : Cond.code yX10_meets cX10_meets 2 (some .int) ∈ pm_tbl := pm_m (lw_in4 (List.mem_of_getElem? (i := 120) rfl)) rfl
set_option maxRecDepth 100000 in
theorem wm_883 : Cond.methodLink RX10 135 yX10_left ∈ pm_tbl := pm_m (lw_in4 (List.mem_of_getElem? (i := 121) rfl)) rfl
set_option maxRecDepth 100000 in
theorem wm_885 : Cond.instanceMethod yX10_left ∈ pm_tbl := pm_m (lw_in4 (List.mem_of_getElem? (i := 123) rfl)) rfl
set_option maxRecDepth 100000 in
theorem wm_886 : Cond.code yX10_left cX10_left 5 (some .int) ∈ pm_tbl := pm_m (lw_in4 (List.mem_of_getElem? (i := 124) rfl)) rfl
set_option maxRecDepth 100000 in
theorem wm_887 : Cond.methodLink RX10 125 yX10_rest ∈ pm_tbl := pm_m (lw_in4 (List.mem_of_getElem? (i := 125) rfl)) rfl
set_option maxRecDepth 100000 in
theorem wm_888 : Cond.static yX10_rest ∈ pm_tbl := pm_m (lw_in4 (List.mem_of_getElem? (i := 126) rfl)) rfl
set_option maxRecDepth 100000 in
theorem wm_889 : Cond.code yX10_rest cX10_rest 2 (some .int) ∈ pm_tbl := pm_m (lw_in4 (List.mem_of_getElem? (i := 127) rfl)) rfl
set_option maxRecDepth 100000 in
theorem wm_890 : Cond.methodLink RX10 139 yX10_places ∈ pm_tbl := pm_m (lw_in4 (List.mem_of_getElem? (i := 128) rfl)) rfl
set_option maxRecDepth 100000 in
theorem wm_892 : Cond.instanceMethod yX10_places ∈ pm_tbl := pm_m (lw_in4 (List.mem_of_getElem? (i := 130) rfl)) rfl
set_option maxRecDepth 100000 in
theorem wm_893 : Cond.code yX10_places cX10_places 4 (some .int) ∈ pm_tbl := pm_m (lw_in4 (List.mem_of_getElem? (i := 131) rfl)) rfl
set_option maxRecDepth 100000 in
theorem wm_894 : Cond.methodLink RX10 128 yX10_first ∈ pm_tbl := pm_m (lw_in4 (List.mem_of_getElem? (i := 132) rfl)) rfl
set_option maxRecDepth 100000 in
theorem wm_896 : Cond.instanceMethod yX10_first ∈ pm_tbl := pm_m (lw_in4 (List.mem_of_getElem? (i := 134) rfl)) rfl
set_option maxRecDepth 100000 in
theorem wm_897 : Cond.code yX10_first cX10_first 3 (some .int) ∈ pm_tbl := pm_m (lw_in4 (List.mem_of_getElem? (i := 135) rfl)) rfl
set_option maxRecDepth 100000 in
theorem wm_898 : Cond.methodLink RL 41 yX10_part ∈ pm_tbl := pm_m (lw_in4 (List.mem_of_getElem? (i := 136) rfl)) rfl
set_option maxRecDepth 100000 in
theorem wm_899 : Cond.instanceMethod yX10_part ∈ pm_tbl := pm_m (lw_in4 (List.mem_of_getElem? (i := 137) rfl)) rfl
set_option maxRecDepth 100000 in
theorem wm_900 : Cond.selects RX10 yX10_part yX10_part ∈ pm_tbl := pm_m (lw_in4 (List.mem_of_getElem? (i := 138) rfl)) rfl
set_option maxRecDepth 100000 in
theorem wm_901 : Cond.code yX10_part cX10_part 4 (some .int) ∈ pm_tbl := pm_m (lw_in4 (List.mem_of_getElem? (i := 139) rfl)) rfl
set_option maxRecDepth 100000 in
theorem wm_902 : Cond.methodLink RL 46 yX10_line ∈ pm_tbl := pm_m (lw_in4 (List.mem_of_getElem? (i := 140) rfl)) rfl
set_option maxRecDepth 100000 in
theorem wm_903 : Cond.instanceMethod yX10_line ∈ pm_tbl := pm_m (lw_in4 (List.mem_of_getElem? (i := 141) rfl)) rfl
set_option maxRecDepth 100000 in
theorem wm_904 : Cond.selects RX10 yX10_line yX10_line ∈ pm_tbl := pm_m (lw_in4 (List.mem_of_getElem? (i := 142) rfl)) rfl
set_option maxRecDepth 100000 in
theorem wm_905 : Cond.code yX10_line cX10_line 8 (some .int) ∈ pm_tbl := pm_m (lw_in4 (List.mem_of_getElem? (i := 143) rfl)) rfl
set_option maxRecDepth 100000 in
theorem wm_906 : Cond.methodLink RL 50 yX10_odds ∈ pm_tbl := pm_m (lw_in4 (List.mem_of_getElem? (i := 144) rfl)) rfl
set_option maxRecDepth 100000 in
theorem wm_907 : Cond.instanceMethod yX10_odds ∈ pm_tbl := pm_m (lw_in4 (List.mem_of_getElem? (i := 145) rfl)) rfl
set_option maxRecDepth 100000 in
theorem wm_908 : Cond.selects RX10 yX10_odds yX10_odds ∈ pm_tbl := pm_m (lw_in4 (List.mem_of_getElem? (i := 146) rfl)) rfl
set_option maxRecDepth 100000 in
theorem wm_909 : Cond.code yX10_odds cX10_odds 3 (some .int) ∈ pm_tbl := pm_m (lw_in4 (List.mem_of_getElem? (i := 147) rfl)) rfl
set_option maxRecDepth 100000 in
theorem wm_910 : Cond.methodLink RX10 163 yX10_setOdds ∈ pm_tbl := pm_m (lw_in4 (List.mem_of_getElem? (i := 148) rfl)) rfl
set_option maxRecDepth 100000 in
theorem wm_912 : Cond.instanceMethod yX10_setOdds ∈ pm_tbl := pm_m (lw_in4 (List.mem_of_getElem? (i := 150) rfl)) rfl
set_option maxRecDepth 100000 in
theorem wm_913 : Cond.code yX10_setOdds cX10_setOdds 4 none ∈ pm_tbl := pm_m (lw_in4 (List.mem_of_getElem? (i := 151) rfl)) rfl
set_option maxRecDepth 100000 in
theorem wm_914 : Cond.methodLink RX10 148 yX10_clearOdds ∈ pm_tbl := pm_m (lw_in4 (List.mem_of_getElem? (i := 152) rfl)) rfl
set_option maxRecDepth 100000 in
theorem wm_916 : Cond.instanceMethod yX10_clearOdds ∈ pm_tbl := pm_m (lw_in4 (List.mem_of_getElem? (i := 154) rfl)) rfl
set_option maxRecDepth 100000 in
theorem wm_917 : Cond.code yX10_clearOdds cX10_clearOdds 2 none ∈ pm_tbl := pm_m (lw_in4 (List.mem_of_getElem? (i := 155) rfl)) rfl
set_option maxRecDepth 100000 in
theorem wm_918 : Cond.constantLong RX10 151 (3) ∈ pm_tbl := pm_m (lw_in4 (List.mem_of_getElem? (i := 156) rfl)) rfl
set_option maxRecDepth 100000 in
theorem wm_919 : Cond.constantLong RX10 153 (8) ∈ pm_tbl := pm_m (lw_in4 (List.mem_of_getElem? (i := 157) rfl)) rfl
set_option maxRecDepth 100000 in
theorem wm_920 : Cond.methodLink RX10 155 yX10_partAll ∈ pm_tbl := pm_m (lw_in4 (List.mem_of_getElem? (i := 158) rfl)) rfl
set_option maxRecDepth 100000 in
theorem wm_922 : Cond.instanceMethod yX10_partAll ∈ pm_tbl := pm_m (lw_in4 (List.mem_of_getElem? (i := 160) rfl)) rfl
set_option maxRecDepth 100000 in
theorem wm_923 : Cond.code yX10_partAll cX10_partAll 8 none ∈ pm_tbl := pm_m (lw_in4 (List.mem_of_getElem? (i := 161) rfl)) rfl
set_option maxRecDepth 100000 in
theorem wm_924 : Cond.methodLink RX10 92 yX10_divisor ∈ pm_tbl := pm_m (lw_in4 (List.mem_of_getElem? (i := 162) rfl)) rfl
set_option maxRecDepth 100000 in
theorem wm_925 : Cond.static yX10_divisor ∈ pm_tbl := pm_m (lw_in4 (List.mem_of_getElem? (i := 163) rfl)) rfl
set_option maxRecDepth 100000 in
theorem wm_926 : Cond.code yX10_divisor cX10_divisor 10 (some .long) ∈ pm_tbl := pm_m (lw_in4 (List.mem_of_getElem? (i := 164) rfl)) rfl
set_option maxRecDepth 100000 in
theorem wm_927 : Cond.methodLink RX10 159 yX10_add ∈ pm_tbl := pm_m (lw_in4 (List.mem_of_getElem? (i := 165) rfl)) rfl
set_option maxRecDepth 100000 in
theorem wm_929 : Cond.instanceMethod yX10_add ∈ pm_tbl := pm_m (lw_in4 (List.mem_of_getElem? (i := 167) rfl)) rfl
set_option maxRecDepth 100000 in
theorem wm_930 : Cond.code yX10_add cX10_add 17 none ∈ pm_tbl := pm_m (lw_in4 (List.mem_of_getElem? (i := 168) rfl)) rfl
set_option maxRecDepth 100000 in
theorem wm_931 : Cond.methodLink RX10 166 yX10_tell ∈ pm_tbl := pm_m (lw_in4 (List.mem_of_getElem? (i := 169) rfl)) rfl
set_option maxRecDepth 100000 in
theorem wm_933 : Cond.instanceMethod yX10_tell ∈ pm_tbl := pm_m (lw_in4 (List.mem_of_getElem? (i := 171) rfl)) rfl
set_option maxRecDepth 100000 in
theorem wm_934 : Cond.code yX10_tell cX10_tell 7 (some .int) ∈ pm_tbl := pm_m (lw_in4 (List.mem_of_getElem? (i := 172) rfl)) rfl
set_option maxRecDepth 100000 in
theorem wm_935 : Cond.methodLink RL 55 yX10_mean ∈ pm_tbl := pm_m (lw_in4 (List.mem_of_getElem? (i := 173) rfl)) rfl
set_option maxRecDepth 100000 in
theorem wm_936 : Cond.instanceMethod yX10_mean ∈ pm_tbl := pm_m (lw_in4 (List.mem_of_getElem? (i := 174) rfl)) rfl
set_option maxRecDepth 100000 in
theorem wm_937 : Cond.selects RX10 yX10_mean yX10_mean ∈ pm_tbl := pm_m (lw_in4 (List.mem_of_getElem? (i := 175) rfl)) rfl
set_option maxRecDepth 100000 in
theorem wm_938 : Cond.code yX10_mean cX10_mean 3 (some .int) ∈ pm_tbl := pm_m (lw_in4 (List.mem_of_getElem? (i := 176) rfl)) rfl
set_option maxRecDepth 100000 in
theorem wm_939 : Cond.methodLink RL 62 yX10_drawn ∈ pm_tbl := pm_m (lw_in4 (List.mem_of_getElem? (i := 177) rfl)) rfl
set_option maxRecDepth 100000 in
theorem wm_940 : Cond.instanceMethod yX10_drawn ∈ pm_tbl := pm_m (lw_in4 (List.mem_of_getElem? (i := 178) rfl)) rfl
set_option maxRecDepth 100000 in
theorem wm_941 : Cond.selects RX10 yX10_drawn yX10_drawn ∈ pm_tbl := pm_m (lw_in4 (List.mem_of_getElem? (i := 179) rfl)) rfl
set_option maxRecDepth 100000 in
theorem wm_942 : Cond.code yX10_drawn cX10_drawn 4 (some .int) ∈ pm_tbl := pm_m (lw_in4 (List.mem_of_getElem? (i := 180) rfl)) rfl
set_option maxRecDepth 100000 in
theorem wm_943 : Cond.methodLink RX10 180 yX10_draws ∈ pm_tbl := pm_m (lw_in4 (List.mem_of_getElem? (i := 181) rfl)) rfl
set_option maxRecDepth 100000 in
theorem wm_945 : Cond.instanceMethod yX10_draws ∈ pm_tbl := pm_m (lw_in4 (List.mem_of_getElem? (i := 183) rfl)) rfl
set_option maxRecDepth 100000 in
theorem wm_946 : Cond.code yX10_draws cX10_draws 4 (some .int) ∈ pm_tbl := pm_m (lw_in4 (List.mem_of_getElem? (i := 184) rfl)) rfl
set_option maxRecDepth 100000 in
theorem wm_947 : Cond.methodLink RX10 177 yX10_under ∈ pm_tbl := pm_m (lw_in4 (List.mem_of_getElem? (i := 185) rfl)) rfl
set_option maxRecDepth 100000 in
theorem wm_949 : Cond.instanceMethod yX10_under ∈ pm_tbl := pm_m (lw_in4 (List.mem_of_getElem? (i := 187) rfl)) rfl
set_option maxRecDepth 100000 in
theorem wm_950 : Cond.code yX10_under cX10_under 2 (some .int) ∈ pm_tbl := pm_m (lw_in4 (List.mem_of_getElem? (i := 188) rfl)) rfl
set_option maxRecDepth 100000 in
theorem wm_951 : Cond.constantLong RX10 173 (6364136223846793005) ∈ pm_tbl := pm_m (lw_in4 (List.mem_of_getElem? (i := 189) rfl)) rfl
set_option maxRecDepth 100000 in
theorem wm_952 : Cond.constantLong RX10 175 (1442695040888963407) ∈ pm_tbl := pm_m (lw_in4 (List.mem_of_getElem? (i := 190) rfl)) rfl
set_option maxRecDepth 100000 in
theorem wm_953 : Cond.methodLink RL 66 yX10_set ∈ pm_tbl := pm_m (lw_in4 (List.mem_of_getElem? (i := 191) rfl)) rfl
set_option maxRecDepth 100000 in
theorem wm_954 : Cond.instanceMethod yX10_set ∈ pm_tbl := pm_m (lw_in4 (List.mem_of_getElem? (i := 192) rfl)) rfl
set_option maxRecDepth 100000 in
theorem wm_955 : Cond.selects RX10 yX10_set yX10_set ∈ pm_tbl := pm_m (lw_in4 (List.mem_of_getElem? (i := 193) rfl)) rfl
set_option maxRecDepth 100000 in
theorem wm_956 : Cond.code yX10_set cX10_set 5 (some .int) ∈ pm_tbl := pm_m (lw_in4 (List.mem_of_getElem? (i := 194) rfl)) rfl
set_option maxRecDepth 100000 in
theorem wm_957 : Cond.methodLink RX10 183 yX10_isFigure ∈ pm_tbl := pm_m (lw_in4 (List.mem_of_getElem? (i := 195) rfl)) rfl
set_option maxRecDepth 100000 in
theorem wm_958 : Cond.static yX10_isFigure ∈ pm_tbl := pm_m (lw_in4 (List.mem_of_getElem? (i := 196) rfl)) rfl
set_option maxRecDepth 100000 in
theorem wm_959 : Cond.code yX10_isFigure cX10_isFigure 1 (some .boolean) ∈ pm_tbl := pm_m (lw_in4 (List.mem_of_getElem? (i := 197) rfl)) rfl
set_option maxRecDepth 100000 in
theorem wm_960 : Cond.methodLink RL 70 yX10_get ∈ pm_tbl := pm_m (lw_in4 (List.mem_of_getElem? (i := 198) rfl)) rfl
set_option maxRecDepth 100000 in
theorem wm_961 : Cond.instanceMethod yX10_get ∈ pm_tbl := pm_m (lw_in4 (List.mem_of_getElem? (i := 199) rfl)) rfl
set_option maxRecDepth 100000 in
theorem wm_962 : Cond.selects RX10 yX10_get yX10_get ∈ pm_tbl := pm_m (lw_in4 (List.mem_of_getElem? (i := 200) rfl)) rfl
set_option maxRecDepth 100000 in
theorem wm_963 : Cond.code yX10_get cX10_get 3 (some .int) ∈ pm_tbl := pm_m (lw_in4 (List.mem_of_getElem? (i := 201) rfl)) rfl
set_option maxRecDepth 100000 in
theorem wm_964 : Cond.methodLink RL 75 yX10_draw ∈ pm_tbl := pm_m (lw_in4 (List.mem_of_getElem? (i := 202) rfl)) rfl
set_option maxRecDepth 100000 in
theorem wm_965 : Cond.instanceMethod yX10_draw ∈ pm_tbl := pm_m (lw_in4 (List.mem_of_getElem? (i := 203) rfl)) rfl
set_option maxRecDepth 100000 in
theorem wm_966 : Cond.selects RX10 yX10_draw yX10_draw ∈ pm_tbl := pm_m (lw_in4 (List.mem_of_getElem? (i := 204) rfl)) rfl
set_option maxRecDepth 100000 in
theorem wm_967 : Cond.code yX10_draw cX10_draw 8 (some .int) ∈ pm_tbl := pm_m (lw_in4 (List.mem_of_getElem? (i := 205) rfl)) rfl
set_option maxRecDepth 100000 in
theorem wm_968 : Cond.methodLink RL 79 yX10_number ∈ pm_tbl := pm_m (lw_in4 (List.mem_of_getElem? (i := 206) rfl)) rfl
set_option maxRecDepth 100000 in
theorem wm_969 : Cond.instanceMethod yX10_number ∈ pm_tbl := pm_m (lw_in4 (List.mem_of_getElem? (i := 207) rfl)) rfl
set_option maxRecDepth 100000 in
theorem wm_970 : Cond.selects RX10 yX10_number yX10_number ∈ pm_tbl := pm_m (lw_in4 (List.mem_of_getElem? (i := 208) rfl)) rfl
set_option maxRecDepth 100000 in
theorem wm_971 : Cond.code yX10_number cX10_number 2 (some .int) ∈ pm_tbl := pm_m (lw_in4 (List.mem_of_getElem? (i := 209) rfl)) rfl
set_option maxRecDepth 100000 in
theorem wm_972 : Cond.methodLink RX10 186 yX10_numberOf ∈ pm_tbl := pm_m (lw_in4 (List.mem_of_getElem? (i := 210) rfl)) rfl
set_option maxRecDepth 100000 in
theorem wm_974 : Cond.instanceMethod yX10_numberOf ∈ pm_tbl := pm_m (lw_in4 (List.mem_of_getElem? (i := 212) rfl)) rfl
set_option maxRecDepth 100000 in
theorem wm_975 : Cond.code yX10_numberOf cX10_numberOf 4 (some .int) ∈ pm_tbl := pm_m (lw_in4 (List.mem_of_getElem? (i := 213) rfl)) rfl
set_option maxRecDepth 100000 in
theorem wm_976 : Cond.methodLink RL 83 yX10_act ∈ pm_tbl := pm_m (lw_in4 (List.mem_of_getElem? (i := 214) rfl)) rfl
set_option maxRecDepth 100000 in
theorem wm_977 : Cond.instanceMethod yX10_act ∈ pm_tbl := pm_m (lw_in4 (List.mem_of_getElem? (i := 215) rfl)) rfl
set_option maxRecDepth 100000 in
theorem wm_978 : Cond.selects RX10 yX10_act yX10_act ∈ pm_tbl := pm_m (lw_in4 (List.mem_of_getElem? (i := 216) rfl)) rfl
set_option maxRecDepth 100000 in
theorem wm_979 : Cond.code yX10_act cX10_act 6 (some .int) ∈ pm_tbl := pm_m (lw_in4 (List.mem_of_getElem? (i := 217) rfl)) rfl
set_option maxRecDepth 100000 in
theorem wm_980 : Cond.methodLink RX10 189 yX10_nestedAt ∈ pm_tbl := pm_m (lw_in4 (List.mem_of_getElem? (i := 218) rfl)) rfl
set_option maxRecDepth 100000 in
theorem wm_981 : Cond.static yX10_nestedAt ∈ pm_tbl := pm_m (lw_in4 (List.mem_of_getElem? (i := 219) rfl)) rfl
set_option maxRecDepth 100000 in
theorem wm_982 : Cond.code yX10_nestedAt cX10_nestedAt 1 (some .int) ∈ pm_tbl := pm_m (lw_in4 (List.mem_of_getElem? (i := 220) rfl)) rfl
set_option maxRecDepth 100000 in
theorem wm_983 : Cond.methodLink RL 87 yX10_way ∈ pm_tbl := pm_m (lw_in4 (List.mem_of_getElem? (i := 221) rfl)) rfl
set_option maxRecDepth 100000 in
theorem wm_984 : Cond.instanceMethod yX10_way ∈ pm_tbl := pm_m (lw_in4 (List.mem_of_getElem? (i := 222) rfl)) rfl
set_option maxRecDepth 100000 in
theorem wm_985 : Cond.selects RX10 yX10_way yX10_way ∈ pm_tbl := pm_m (lw_in4 (List.mem_of_getElem? (i := 223) rfl)) rfl
set_option maxRecDepth 100000 in
theorem wm_986 : Cond.code yX10_way cX10_way 8 (some .int) ∈ pm_tbl := pm_m (lw_in4 (List.mem_of_getElem? (i := 224) rfl)) rfl
set_option maxRecDepth 100000 in
theorem wm_987 : Cond.methodLink RX10 195 yX10_after ∈ pm_tbl := pm_m (lw_in4 (List.mem_of_getElem? (i := 225) rfl)) rfl
set_option maxRecDepth 100000 in
theorem wm_988 : Cond.static yX10_after ∈ pm_tbl := pm_m (lw_in4 (List.mem_of_getElem? (i := 226) rfl)) rfl
set_option maxRecDepth 100000 in
theorem wm_989 : Cond.code yX10_after cX10_after 4 (some .int) ∈ pm_tbl := pm_m (lw_in4 (List.mem_of_getElem? (i := 227) rfl)) rfl
set_option maxRecDepth 100000 in
theorem wm_990 : Cond.methodLink RX10 192 yX10_turned ∈ pm_tbl := pm_m (lw_in4 (List.mem_of_getElem? (i := 228) rfl)) rfl
set_option maxRecDepth 100000 in
theorem wm_991 : Cond.static yX10_turned ∈ pm_tbl := pm_m (lw_in4 (List.mem_of_getElem? (i := 229) rfl)) rfl
set_option maxRecDepth 100000 in
theorem wm_992 : Cond.code yX10_turned cX10_turned 3 (some .int) ∈ pm_tbl := pm_m (lw_in4 (List.mem_of_getElem? (i := 230) rfl)) rfl
set_option maxRecDepth 100000 in
theorem wm_993 : Cond.methodLink RL 91 yX10_step ∈ pm_tbl := pm_m (lw_in4 (List.mem_of_getElem? (i := 231) rfl)) rfl
set_option maxRecDepth 100000 in
theorem wm_994 : Cond.instanceMethod yX10_step ∈ pm_tbl := pm_m (lw_in4 (List.mem_of_getElem? (i := 232) rfl)) rfl
set_option maxRecDepth 100000 in
theorem wm_995 : Cond.selects RX10 yX10_step yX10_step ∈ pm_tbl := pm_m (lw_in4 (List.mem_of_getElem? (i := 233) rfl)) rfl
set_option maxRecDepth 100000 in
theorem wm_996 : Cond.code yX10_step cX10_step 2 (some .int) ∈ pm_tbl := pm_m (lw_in4 (List.mem_of_getElem? (i := 234) rfl)) rfl
set_option maxRecDepth 100000 in
theorem wm_997 : Cond.methodLink RL 95 yX10_row ∈ pm_tbl := pm_m (lw_in4 (List.mem_of_getElem? (i := 235) rfl)) rfl
set_option maxRecDepth 100000 in
theorem wm_998 : Cond.instanceMethod yX10_row ∈ pm_tbl := pm_m (lw_in4 (List.mem_of_getElem? (i := 236) rfl)) rfl
set_option maxRecDepth 100000 in
theorem wm_999 : Cond.selects RX10 yX10_row yX10_row ∈ pm_tbl := pm_m (lw_in4 (List.mem_of_getElem? (i := 237) rfl)) rfl
set_option maxRecDepth 100000 in
theorem wm_1000 : Cond.code yX10_row cX10_row 4 (some .int) ∈ pm_tbl := pm_m (lw_in4 (List.mem_of_getElem? (i := 238) rfl)) rfl
set_option maxRecDepth 100000 in
theorem wm_1001 : Cond.methodLink RX10 198 yX10_isRow ∈ pm_tbl := pm_m (lw_in4 (List.mem_of_getElem? (i := 239) rfl)) rfl
set_option maxRecDepth 100000 in
theorem wm_1002 : Cond.static yX10_isRow ∈ pm_tbl := pm_m (lw_in5 (List.mem_of_getElem? (i := 0) rfl)) rfl
set_option maxRecDepth 100000 in
theorem wm_1003 : Cond.code yX10_isRow cX10_isRow 1 (some .boolean) ∈ pm_tbl := pm_m (lw_in5 (List.mem_of_getElem? (i := 1) rfl)) rfl
set_option maxRecDepth 100000 in
theorem wm_1004 : Cond.methodLink RL 99 yX10_lay ∈ pm_tbl := pm_m (lw_in5 (List.mem_of_getElem? (i := 2) rfl)) rfl
set_option maxRecDepth 100000 in
theorem wm_1005 : Cond.instanceMethod yX10_lay ∈ pm_tbl := pm_m (lw_in5 (List.mem_of_getElem? (i := 3) rfl)) rfl
set_option maxRecDepth 100000 in
theorem wm_1006 : Cond.selects RX10 yX10_lay yX10_lay ∈ pm_tbl := pm_m (lw_in5 (List.mem_of_getElem? (i := 4) rfl)) rfl
set_option maxRecDepth 100000 in
theorem wm_1007 : Cond.code yX10_lay cX10_lay 6 (some .int) ∈ pm_tbl := pm_m (lw_in5 (List.mem_of_getElem? (i := 5) rfl)) rfl
set_option maxRecDepth 100000 in
theorem wm_1008 : Cond.methodLink RX10 201 yX10_looked ∈ pm_tbl := pm_m (lw_in5 (List.mem_of_getElem? (i := 6) rfl)) rfl
set_option maxRecDepth 100000 in
theorem wm_1010 : Cond.instanceMethod yX10_looked ∈ pm_tbl := pm_m (lw_in5 (List.mem_of_getElem? (i := 8) rfl)) rfl
set_option maxRecDepth 100000 in
theorem wm_1011 : Cond.code yX10_looked cX10_looked 2 (some .int) ∈ pm_tbl := pm_m (lw_in5 (List.mem_of_getElem? (i := 9) rfl)) rfl
set_option maxRecDepth 100000 in
theorem wm_1012 : Cond.methodLink RL 103 yX10_tear ∈ pm_tbl := pm_m (lw_in5 (List.mem_of_getElem? (i := 10) rfl)) rfl
set_option maxRecDepth 100000 in
theorem wm_1013 : Cond.instanceMethod yX10_tear ∈ pm_tbl := pm_m (lw_in5 (List.mem_of_getElem? (i := 11) rfl)) rfl
set_option maxRecDepth 100000 in
theorem wm_1014 : Cond.selects RX10 yX10_tear yX10_tear ∈ pm_tbl := pm_m (lw_in5 (List.mem_of_getElem? (i := 12) rfl)) rfl
set_option maxRecDepth 100000 in
theorem wm_1015 : Cond.code yX10_tear cX10_tear 3 (some .int) ∈ pm_tbl := pm_m (lw_in5 (List.mem_of_getElem? (i := 13) rfl)) rfl
set_option maxRecDepth 100000 in
theorem wm_1016 : Cond.methodLink RL 108 yX10_copy ∈ pm_tbl := pm_m (lw_in5 (List.mem_of_getElem? (i := 14) rfl)) rfl
set_option maxRecDepth 100000 in
theorem wm_1017 : Cond.instanceMethod yX10_copy ∈ pm_tbl := pm_m (lw_in5 (List.mem_of_getElem? (i := 15) rfl)) rfl
set_option maxRecDepth 100000 in
theorem wm_1018 : Cond.selects RX10 yX10_copy yX10_copy ∈ pm_tbl := pm_m (lw_in5 (List.mem_of_getElem? (i := 16) rfl)) rfl
set_option maxRecDepth 100000 in
theorem wm_1019 : Cond.code yX10_copy cX10_copy 7 (some .int) ∈ pm_tbl := pm_m (lw_in5 (List.mem_of_getElem? (i := 17) rfl)) rfl
set_option maxRecDepth 100000 in
theorem wm_1020 : Cond.methodLink RL 112 yX10_misfits ∈ pm_tbl := pm_m (lw_in5 (List.mem_of_getElem? (i := 18) rfl)) rfl
set_option maxRecDepth 100000 in
theorem wm_1021 : Cond.instanceMethod yX10_misfits ∈ pm_tbl := pm_m (lw_in5 (List.mem_of_getElem? (i := 19) rfl)) rfl
set_option maxRecDepth 100000 in
theorem wm_1022 : Cond.selects RX10 yX10_misfits yX10_misfits ∈ pm_tbl := pm_m (lw_in5 (List.mem_of_getElem? (i := 20) rfl)) rfl
set_option maxRecDepth 100000 in
theorem wm_1023 : Cond.code yX10_misfits cX10_misfits 4 (some .int) ∈ pm_tbl := pm_m (lw_in5 (List.mem_of_getElem? (i := 21) rfl)) rfl
set_option maxRecDepth 100000 in
theorem wm_1024 : Cond.methodLink RX10 207 yX10_misfitsOf ∈ pm_tbl := pm_m (lw_in5 (List.mem_of_getElem? (i := 22) rfl)) rfl
set_option maxRecDepth 100000 in
theorem wm_1026 : Cond.instanceMethod yX10_misfitsOf ∈ pm_tbl := pm_m (lw_in5 (List.mem_of_getElem? (i := 24) rfl)) rfl
set_option maxRecDepth 100000 in
theorem wm_1027 : Cond.code yX10_misfitsOf cX10_misfitsOf 8 (some .int) ∈ pm_tbl := pm_m (lw_in5 (List.mem_of_getElem? (i := 25) rfl)) rfl
set_option maxRecDepth 100000 in
theorem wm_1028 : Cond.methodLink RX10 204 yX10_leaf ∈ pm_tbl := pm_m (lw_in5 (List.mem_of_getElem? (i := 26) rfl)) rfl
set_option maxRecDepth 100000 in
theorem wm_1030 : Cond.instanceMethod yX10_leaf ∈ pm_tbl := pm_m (lw_in5 (List.mem_of_getElem? (i := 28) rfl)) rfl
set_option maxRecDepth 100000 in
theorem wm_1031 : Cond.code yX10_leaf cX10_leaf 3 (some .int) ∈ pm_tbl := pm_m (lw_in5 (List.mem_of_getElem? (i := 29) rfl)) rfl
set_option maxRecDepth 100000 in
theorem wm_1032 : Cond.methodLink RL 116 yX10_follows ∈ pm_tbl := pm_m (lw_in5 (List.mem_of_getElem? (i := 30) rfl)) rfl
set_option maxRecDepth 100000 in
theorem wm_1033 : Cond.instanceMethod yX10_follows ∈ pm_tbl := pm_m (lw_in5 (List.mem_of_getElem? (i := 31) rfl)) rfl
set_option maxRecDepth 100000 in
theorem wm_1034 : Cond.selects RX10 yX10_follows yX10_follows ∈ pm_tbl := pm_m (lw_in5 (List.mem_of_getElem? (i := 32) rfl)) rfl
set_option maxRecDepth 100000 in
theorem wm_1035 : Cond.code yX10_follows cX10_follows 5 (some .int) ∈ pm_tbl := pm_m (lw_in5 (List.mem_of_getElem? (i := 33) rfl)) rfl
set_option maxRecDepth 100000 in
theorem wm_1036 : Cond.methodLink RL 120 yX10_lacks ∈ pm_tbl := pm_m (lw_in5 (List.mem_of_getElem? (i := 34) rfl)) rfl
set_option maxRecDepth 100000 in
theorem wm_1037 : Cond.instanceMethod yX10_lacks ∈ pm_tbl := pm_m (lw_in5 (List.mem_of_getElem? (i := 35) rfl)) rfl
set_option maxRecDepth 100000 in
theorem wm_1038 : Cond.selects RX10 yX10_lacks yX10_lacks ∈ pm_tbl := pm_m (lw_in5 (List.mem_of_getElem? (i := 36) rfl)) rfl
set_option maxRecDepth 100000 in
theorem wm_1039 : Cond.code yX10_lacks cX10_lacks 8 (some .int) ∈ pm_tbl := pm_m (lw_in5 (List.mem_of_getElem? (i := 37) rfl)) rfl
set_option maxRecDepth 100000 in
theorem wm_1040 : Cond.constantLong RX10 213 (-1) ∈ pm_tbl := pm_m (lw_in5 (List.mem_of_getElem? (i := 38) rfl)) rfl
set_option maxRecDepth 100000 in
theorem wm_1041 : Cond.methodLink RL 124 yX10_swapped ∈ pm_tbl := pm_m (lw_in5 (List.mem_of_getElem? (i := 39) rfl)) rfl
set_option maxRecDepth 100000 in
theorem wm_1042 : Cond.instanceMethod yX10_swapped ∈ pm_tbl := pm_m (lw_in5 (List.mem_of_getElem? (i := 40) rfl)) rfl
set_option maxRecDepth 100000 in
theorem wm_1043 : Cond.selects RX10 yX10_swapped yX10_swapped ∈ pm_tbl := pm_m (lw_in5 (List.mem_of_getElem? (i := 41) rfl)) rfl
set_option maxRecDepth 100000 in
theorem wm_1044 : Cond.code yX10_swapped cX10_swapped 7 (some .int) ∈ pm_tbl := pm_m (lw_in5 (List.mem_of_getElem? (i := 42) rfl)) rfl
set_option maxRecDepth 100000 in
theorem wm_1045 : Cond.methodLink RX10 215 yX10_swap ∈ pm_tbl := pm_m (lw_in5 (List.mem_of_getElem? (i := 43) rfl)) rfl
set_option maxRecDepth 100000 in
theorem wm_1047 : Cond.instanceMethod yX10_swap ∈ pm_tbl := pm_m (lw_in5 (List.mem_of_getElem? (i := 45) rfl)) rfl
set_option maxRecDepth 100000 in
theorem wm_1048 : Cond.code yX10_swap cX10_swap 5 none ∈ pm_tbl := pm_m (lw_in5 (List.mem_of_getElem? (i := 46) rfl)) rfl
set_option maxRecDepth 100000 in
theorem wm_1049 : Cond.methodLink RL 129 yX10_record ∈ pm_tbl := pm_m (lw_in5 (List.mem_of_getElem? (i := 47) rfl)) rfl
set_option maxRecDepth 100000 in
theorem wm_1050 : Cond.instanceMethod yX10_record ∈ pm_tbl := pm_m (lw_in5 (List.mem_of_getElem? (i := 48) rfl)) rfl
set_option maxRecDepth 100000 in
theorem wm_1051 : Cond.selects RX10 yX10_record yX10_record ∈ pm_tbl := pm_m (lw_in5 (List.mem_of_getElem? (i := 49) rfl)) rfl
set_option maxRecDepth 100000 in
theorem wm_1052 : Cond.code yX10_record cX10_record 7 (some .int) ∈ pm_tbl := pm_m (lw_in5 (List.mem_of_getElem? (i := 50) rfl)) rfl
set_option maxRecDepth 100000 in
theorem wm_1053 : Cond.methodLink RL 133 yX10_off ∈ pm_tbl := pm_m (lw_in5 (List.mem_of_getElem? (i := 51) rfl)) rfl
set_option maxRecDepth 100000 in
theorem wm_1054 : Cond.instanceMethod yX10_off ∈ pm_tbl := pm_m (lw_in5 (List.mem_of_getElem? (i := 52) rfl)) rfl
set_option maxRecDepth 100000 in
theorem wm_1055 : Cond.selects RX10 yX10_off yX10_off ∈ pm_tbl := pm_m (lw_in5 (List.mem_of_getElem? (i := 53) rfl)) rfl
set_option maxRecDepth 100000 in
theorem wm_1056 : Cond.code yX10_off cX10_off 4 (some .int) ∈ pm_tbl := pm_m (lw_in5 (List.mem_of_getElem? (i := 54) rfl)) rfl
set_option maxRecDepth 100000 in
theorem wm_1057 : Cond.methodLink RX10 228 yX10_counts ∈ pm_tbl := pm_m (lw_in5 (List.mem_of_getElem? (i := 55) rfl)) rfl
set_option maxRecDepth 100000 in
theorem wm_1059 : Cond.instanceMethod yX10_counts ∈ pm_tbl := pm_m (lw_in5 (List.mem_of_getElem? (i := 57) rfl)) rfl
set_option maxRecDepth 100000 in
theorem wm_1060 : Cond.code yX10_counts cX10_counts 4 (some .boolean) ∈ pm_tbl := pm_m (lw_in5 (List.mem_of_getElem? (i := 58) rfl)) rfl
set_option maxRecDepth 100000 in
theorem wm_1061 : Cond.methodLink RX10 230 yX10_offOf ∈ pm_tbl := pm_m (lw_in5 (List.mem_of_getElem? (i := 59) rfl)) rfl
set_option maxRecDepth 100000 in
theorem wm_1063 : Cond.instanceMethod yX10_offOf ∈ pm_tbl := pm_m (lw_in5 (List.mem_of_getElem? (i := 61) rfl)) rfl
set_option maxRecDepth 100000 in
theorem wm_1064 : Cond.code yX10_offOf cX10_offOf 5 (some .int) ∈ pm_tbl := pm_m (lw_in5 (List.mem_of_getElem? (i := 62) rfl)) rfl
set_option maxRecDepth 100000 in
theorem wm_1065 : Cond.methodLink RX10 224 yX10_setShares ∈ pm_tbl := pm_m (lw_in5 (List.mem_of_getElem? (i := 63) rfl)) rfl
set_option maxRecDepth 100000 in
theorem wm_1067 : Cond.instanceMethod yX10_setShares ∈ pm_tbl := pm_m (lw_in5 (List.mem_of_getElem? (i := 65) rfl)) rfl
set_option maxRecDepth 100000 in
theorem wm_1068 : Cond.code yX10_setShares cX10_setShares 7 none ∈ pm_tbl := pm_m (lw_in5 (List.mem_of_getElem? (i := 66) rfl)) rfl
set_option maxRecDepth 100000 in
theorem wm_1069 : Cond.constantLong RX10 222 (10) ∈ pm_tbl := pm_m (lw_in5 (List.mem_of_getElem? (i := 67) rfl)) rfl
set_option maxRecDepth 100000 in
theorem wm_1070 : Cond.constant RX10 227 (1000000) ∈ pm_tbl := pm_m (lw_in5 (List.mem_of_getElem? (i := 68) rfl)) rfl
set_option maxRecDepth 100000 in
theorem wm_1071 : Cond.methodLink RL 137 yX10_nearest ∈ pm_tbl := pm_m (lw_in5 (List.mem_of_getElem? (i := 69) rfl)) rfl
set_option maxRecDepth 100000 in
theorem wm_1072 : Cond.instanceMethod yX10_nearest ∈ pm_tbl := pm_m (lw_in5 (List.mem_of_getElem? (i := 70) rfl)) rfl
set_option maxRecDepth 100000 in
theorem wm_1073 : Cond.selects RX10 yX10_nearest yX10_nearest ∈ pm_tbl := pm_m (lw_in5 (List.mem_of_getElem? (i := 71) rfl)) rfl
set_option maxRecDepth 100000 in
theorem wm_1074 : Cond.code yX10_nearest cX10_nearest 7 (some .int) ∈ pm_tbl := pm_m (lw_in5 (List.mem_of_getElem? (i := 72) rfl)) rfl
set_option maxRecDepth 100000 in
theorem wm_1075 : Cond.methodLink RL 141 yX10_lost ∈ pm_tbl := pm_m (lw_in5 (List.mem_of_getElem? (i := 73) rfl)) rfl
set_option maxRecDepth 100000 in
theorem wm_1076 : Cond.instanceMethod yX10_lost ∈ pm_tbl := pm_m (lw_in5 (List.mem_of_getElem? (i := 74) rfl)) rfl
set_option maxRecDepth 100000 in
theorem wm_1077 : Cond.selects RX10 yX10_lost yX10_lost ∈ pm_tbl := pm_m (lw_in5 (List.mem_of_getElem? (i := 75) rfl)) rfl
set_option maxRecDepth 100000 in
theorem wm_1078 : Cond.code yX10_lost cX10_lost 9 (some .int) ∈ pm_tbl := pm_m (lw_in5 (List.mem_of_getElem? (i := 76) rfl)) rfl
set_option maxRecDepth 100000 in
theorem wm_1079 : Cond.methodLink RL 145 yX10_need ∈ pm_tbl := pm_m (lw_in5 (List.mem_of_getElem? (i := 77) rfl)) rfl
set_option maxRecDepth 100000 in
theorem wm_1080 : Cond.instanceMethod yX10_need ∈ pm_tbl := pm_m (lw_in5 (List.mem_of_getElem? (i := 78) rfl)) rfl
set_option maxRecDepth 100000 in
theorem wm_1081 : Cond.selects RX10 yX10_need yX10_need ∈ pm_tbl := pm_m (lw_in5 (List.mem_of_getElem? (i := 79) rfl)) rfl
set_option maxRecDepth 100000 in
theorem wm_1082 : Cond.code yX10_need cX10_need 5 (some .int) ∈ pm_tbl := pm_m (lw_in5 (List.mem_of_getElem? (i := 80) rfl)) rfl
set_option maxRecDepth 100000 in
theorem wm_1083 : Cond.constant RX10 233 (9999999) ∈ pm_tbl := pm_m (lw_in5 (List.mem_of_getElem? (i := 81) rfl)) rfl
set_option maxRecDepth 100000 in
theorem wm_1084 : Cond.methodLink RL 150 yX10_asked ∈ pm_tbl := pm_m (lw_in5 (List.mem_of_getElem? (i := 82) rfl)) rfl
set_option maxRecDepth 100000 in
theorem wm_1085 : Cond.instanceMethod yX10_asked ∈ pm_tbl := pm_m (lw_in5 (List.mem_of_getElem? (i := 83) rfl)) rfl
set_option maxRecDepth 100000 in
theorem wm_1086 : Cond.selects RX10 yX10_asked yX10_asked ∈ pm_tbl := pm_m (lw_in5 (List.mem_of_getElem? (i := 84) rfl)) rfl
set_option maxRecDepth 100000 in
theorem wm_1087 : Cond.code yX10_asked cX10_asked 1 (some .long) ∈ pm_tbl := pm_m (lw_in5 (List.mem_of_getElem? (i := 85) rfl)) rfl
set_option maxRecDepth 100000 in
theorem wm_1088 : Cond.methodLink RL 154 yX10_upper ∈ pm_tbl := pm_m (lw_in5 (List.mem_of_getElem? (i := 86) rfl)) rfl
set_option maxRecDepth 100000 in
theorem wm_1089 : Cond.instanceMethod yX10_upper ∈ pm_tbl := pm_m (lw_in5 (List.mem_of_getElem? (i := 87) rfl)) rfl
set_option maxRecDepth 100000 in
theorem wm_1090 : Cond.selects RX10 yX10_upper yX10_upper ∈ pm_tbl := pm_m (lw_in5 (List.mem_of_getElem? (i := 88) rfl)) rfl
set_option maxRecDepth 100000 in
theorem wm_1091 : Cond.code yX10_upper cX10_upper 1 (some .long) ∈ pm_tbl := pm_m (lw_in5 (List.mem_of_getElem? (i := 89) rfl)) rfl
set_option maxRecDepth 100000 in
theorem wm_1092 : Cond.methodLink RL 158 yX10_lower ∈ pm_tbl := pm_m (lw_in5 (List.mem_of_getElem? (i := 90) rfl)) rfl
set_option maxRecDepth 100000 in
theorem wm_1093 : Cond.instanceMethod yX10_lower ∈ pm_tbl := pm_m (lw_in5 (List.mem_of_getElem? (i := 91) rfl)) rfl
set_option maxRecDepth 100000 in
theorem wm_1094 : Cond.selects RX10 yX10_lower yX10_lower ∈ pm_tbl := pm_m (lw_in5 (List.mem_of_getElem? (i := 92) rfl)) rfl
set_option maxRecDepth 100000 in
theorem wm_1095 : Cond.code yX10_lower cX10_lower 1 (some .long) ∈ pm_tbl := pm_m (lw_in5 (List.mem_of_getElem? (i := 93) rfl)) rfl
set_option maxRecDepth 100000 in
theorem wm_1096 : Cond.methodLink RL 162 yX10_count ∈ pm_tbl := pm_m (lw_in5 (List.mem_of_getElem? (i := 94) rfl)) rfl
set_option maxRecDepth 100000 in
theorem wm_1097 : Cond.instanceMethod yX10_count ∈ pm_tbl := pm_m (lw_in5 (List.mem_of_getElem? (i := 95) rfl)) rfl
set_option maxRecDepth 100000 in
theorem wm_1098 : Cond.selects RX10 yX10_count yX10_count ∈ pm_tbl := pm_m (lw_in5 (List.mem_of_getElem? (i := 96) rfl)) rfl
set_option maxRecDepth 100000 in
theorem wm_1099 : Cond.code yX10_count cX10_count 4 (some .int) ∈ pm_tbl := pm_m (lw_in5 (List.mem_of_getElem? (i := 97) rfl)) rfl
set_option maxRecDepth 100000 in
theorem wm_1100 : Cond.methodLink RL 167 yX10_finding ∈ pm_tbl := pm_m (lw_in5 (List.mem_of_getElem? (i := 98) rfl)) rfl
set_option maxRecDepth 100000 in
theorem wm_1101 : Cond.instanceMethod yX10_finding ∈ pm_tbl := pm_m (lw_in5 (List.mem_of_getElem? (i := 99) rfl)) rfl
set_option maxRecDepth 100000 in
theorem wm_1102 : Cond.selects RX10 yX10_finding yX10_finding ∈ pm_tbl := pm_m (lw_in5 (List.mem_of_getElem? (i := 100) rfl)) rfl
set_option maxRecDepth 100000 in
theorem wm_1103 : Cond.code yX10_finding cX10_finding 1 (some .int) ∈ pm_tbl := pm_m (lw_in5 (List.mem_of_getElem? (i := 101) rfl)) rfl
set_option maxRecDepth 100000 in
theorem wm_1104 : Cond.methodLink RL 171 yX10_findings ∈ pm_tbl := pm_m (lw_in5 (List.mem_of_getElem? (i := 102) rfl)) rfl
set_option maxRecDepth 100000 in
theorem wm_1105 : Cond.instanceMethod yX10_findings ∈ pm_tbl := pm_m (lw_in5 (List.mem_of_getElem? (i := 103) rfl)) rfl
set_option maxRecDepth 100000 in
theorem wm_1106 : Cond.selects RX10 yX10_findings yX10_findings ∈ pm_tbl := pm_m (lw_in5 (List.mem_of_getElem? (i := 104) rfl)) rfl
set_option maxRecDepth 100000 in
theorem wm_1107 : Cond.code yX10_findings cX10_findings 2 (some .int) ∈ pm_tbl := pm_m (lw_in5 (List.mem_of_getElem? (i := 105) rfl)) rfl
set_option maxRecDepth 100000 in
theorem wm_1108 : Cond.methodLink RL 175 yX10_digest ∈ pm_tbl := pm_m (lw_in5 (List.mem_of_getElem? (i := 106) rfl)) rfl
set_option maxRecDepth 100000 in
theorem wm_1109 : Cond.instanceMethod yX10_digest ∈ pm_tbl := pm_m (lw_in5 (List.mem_of_getElem? (i := 107) rfl)) rfl
set_option maxRecDepth 100000 in
theorem wm_1110 : Cond.selects RX10 yX10_digest yX10_digest ∈ pm_tbl := pm_m (lw_in5 (List.mem_of_getElem? (i := 108) rfl)) rfl
set_option maxRecDepth 100000 in
theorem wm_1111 : Cond.code yX10_digest cX10_digest 5 (some .long) ∈ pm_tbl := pm_m (lw_in5 (List.mem_of_getElem? (i := 109) rfl)) rfl
set_option maxRecDepth 100000 in
theorem wm_1112 : Cond.constantLong RX10 234 (17) ∈ pm_tbl := pm_m (lw_in5 (List.mem_of_getElem? (i := 110) rfl)) rfl
set_option maxRecDepth 100000 in
theorem wm_1113 : Cond.constantLong RX10 236 (31) ∈ pm_tbl := pm_m (lw_in5 (List.mem_of_getElem? (i := 111) rfl)) rfl
set_option maxRecDepth 100000 in
theorem wm_1114 : Cond.constantLong RL 56 (4294967295) ∈ pm_tbl := pm_m (lw_in5 (List.mem_of_getElem? (i := 112) rfl)) rfl
set_option maxRecDepth 100000 in
theorem wm_1119 : Cond.castable RX7 RX6 ∈ pm_tbl := pm_m (lw_in5 (List.mem_of_getElem? (i := 117) rfl)) rfl
set_option maxRecDepth 100000 in
theorem wm_1120 : Cond.castable RX2 RX1 ∈ pm_tbl := pm_m (lw_in5 (List.mem_of_getElem? (i := 118) rfl)) rfl
set_option maxRecDepth 100000 in
theorem wm_1121 : Cond.castable RX6 RX1 ∈ pm_tbl := pm_m (lw_in5 (List.mem_of_getElem? (i := 119) rfl)) rfl
set_option maxRecDepth 100000 in
theorem wm_1122 : Cond.castable RX7 RX1 ∈ pm_tbl := pm_m (lw_in5 (List.mem_of_getElem? (i := 120) rfl)) rfl
set_option maxRecDepth 100000 in
theorem wm_1123 : Cond.selects RX7 yX6_rest yX6_rest ∈ pm_tbl := pm_mx (List.mem_of_getElem? (i := 0) rfl) rfl
set_option maxRecDepth 100000 in
theorem wm_1124 : Cond.selects RX7 yX6_partHeaps yX6_partHeaps ∈ pm_tbl := pm_mx (List.mem_of_getElem? (i := 1) rfl) rfl
set_option maxRecDepth 100000 in
theorem wm_1125 : Cond.selects RX7 yX6_sharesOf yX6_sharesOf ∈ pm_tbl := pm_mx (List.mem_of_getElem? (i := 2) rfl) rfl
set_option maxRecDepth 100000 in
theorem wm_1126 : Cond.selects RX7 yX6_partHeap yX6_partHeap ∈ pm_tbl := pm_mx (List.mem_of_getElem? (i := 3) rfl) rfl
set_option maxRecDepth 100000 in
theorem inX0 : ∀ w ∈ u_ws RX0 TX0 2, w ∈ pm_tbl := by decide +kernel
theorem s0_bytes : pm_S 0 0 (RX0, "bytes", "[B") true (.array .byte) := ⟨RX0, TX0, 2, tyX0, rfl, by decide, rfl, inX0, by decide +kernel, tyX0_ok, nmX0⟩
theorem s0_size : pm_S 0 1 (RX0, "size", "I") false (.int) := ⟨RX0, TX0, 2, tyX0, rfl, by decide, rfl, inX0, by decide +kernel, tyX0_ok, nmX0⟩
set_option maxRecDepth 100000 in
theorem inX1 : ∀ w ∈ u_ws RX1 TX1 0, w ∈ pm_tbl := by decide +kernel
set_option maxRecDepth 100000 in
theorem inX2 : ∀ w ∈ u_ws RX2 TX2 0, w ∈ pm_tbl := by decide +kernel
set_option maxRecDepth 100000 in
theorem inX3 : ∀ w ∈ u_ws RX3 TX3 1, w ∈ pm_tbl := by decide +kernel
theorem s3_lines : pm_S 3 0 (RX3, "lines", "[I") true (.array .int) := ⟨RX3, TX3, 1, tyX3, rfl, by decide, rfl, inX3, by decide +kernel, tyX3_ok, nmX3⟩
set_option maxRecDepth 100000 in
theorem inX4 : ∀ w ∈ u_ws RX4 TX4 4, w ∈ pm_tbl := by decide +kernel
theorem s4_weights : pm_S 4 0 (RX4, "weights", "[J") true (.array .long) := ⟨RX4, TX4, 4, tyX4, rfl, by decide, rfl, inX4, by decide +kernel, tyX4_ok, nmX4⟩
theorem s4_heaps : pm_S 4 1 (RX4, "heaps", "[J") true (.array .long) := ⟨RX4, TX4, 4, tyX4, rfl, by decide, rfl, inX4, by decide +kernel, tyX4_ok, nmX4⟩
theorem s4_nextHeaps : pm_S 4 2 (RX4, "nextHeaps", "[J") true (.array .long) := ⟨RX4, TX4, 4, tyX4, rfl, by decide, rfl, inX4, by decide +kernel, tyX4_ok, nmX4⟩
theorem s4_all : pm_S 4 3 (RX4, "all", "J") false (.long) := ⟨RX4, TX4, 4, tyX4, rfl, by decide, rfl, inX4, by decide +kernel, tyX4_ok, nmX4⟩
set_option maxRecDepth 100000 in
theorem inX5 : ∀ w ∈ u_ws RX5 TX5 1, w ∈ pm_tbl := by decide +kernel
theorem s5_s : pm_S 5 0 (RX5, "s", "J") false (.long) := ⟨RX5, TX5, 1, tyX5, rfl, by decide, rfl, inX5, by decide +kernel, tyX5_ok, nmX5⟩
set_option maxRecDepth 100000 in
theorem inX6 : ∀ w ∈ u_ws RX6 TX6 3, w ∈ pm_tbl := by decide +kernel
theorem s6_bundle : pm_S 6 0 (RX6, "bundle", "I") true (.int) := ⟨RX6, TX6, 3, tyX6, rfl, by decide, rfl, inX6, by decide +kernel, tyX6_ok, nmX6⟩
theorem s6_by : pm_S 6 1 (RX6, "by", "I") true (.int) := ⟨RX6, TX6, 3, tyX6, rfl, by decide, rfl, inX6, by decide +kernel, tyX6_ok, nmX6⟩
theorem s6_fingers : pm_S 6 2 (RX6, "fingers", "I") true (.int) := ⟨RX6, TX6, 3, tyX6, rfl, by decide, rfl, inX6, by decide +kernel, tyX6_ok, nmX6⟩
set_option maxRecDepth 100000 in
theorem inX7 : ∀ w ∈ u_ws RX7 TX7 5, w ∈ pm_tbl := by decide +kernel
theorem s7_bundle : pm_S 7 0 (RX6, "bundle", "I") true (.int) := ⟨RX7, TX7, 5, tyX7, rfl, by decide, rfl, inX7, by decide +kernel, tyX7_ok, nmX7⟩
theorem s7_by : pm_S 7 1 (RX6, "by", "I") true (.int) := ⟨RX7, TX7, 5, tyX7, rfl, by decide, rfl, inX7, by decide +kernel, tyX7_ok, nmX7⟩
theorem s7_fingers : pm_S 7 2 (RX6, "fingers", "I") true (.int) := ⟨RX7, TX7, 5, tyX7, rfl, by decide, rfl, inX7, by decide +kernel, tyX7_ok, nmX7⟩
theorem s7_lo : pm_S 7 3 (RX7, "lo", "I") true (.int) := ⟨RX7, TX7, 5, tyX7, rfl, by decide, rfl, inX7, by decide +kernel, tyX7_ok, nmX7⟩
theorem s7_hi : pm_S 7 4 (RX7, "hi", "I") true (.int) := ⟨RX7, TX7, 5, tyX7, rfl, by decide, rfl, inX7, by decide +kernel, tyX7_ok, nmX7⟩
set_option maxRecDepth 100000 in
theorem inX8 : ∀ w ∈ u_ws RX8 TX8 5, w ∈ pm_tbl := by decide +kernel
theorem s8_waiting : pm_S 8 0 (RX8, "waiting", "[I") true (.array .int) := ⟨RX8, TX8, 5, tyX8, rfl, by decide, rfl, inX8, by decide +kernel, tyX8_ok, nmX8⟩
theorem s8_before : pm_S 8 1 (RX8, "before", "[I") true (.array .int) := ⟨RX8, TX8, 5, tyX8, rfl, by decide, rfl, inX8, by decide +kernel, tyX8_ok, nmX8⟩
theorem s8_metBy : pm_S 8 2 (RX8, "metBy", "[I") true (.array .int) := ⟨RX8, TX8, 5, tyX8, rfl, by decide, rfl, inX8, by decide +kernel, tyX8_ok, nmX8⟩
theorem s8_acts : pm_S 8 3 (RX8, "acts", "[I") true (.array .int) := ⟨RX8, TX8, 5, tyX8, rfl, by decide, rfl, inX8, by decide +kernel, tyX8_ok, nmX8⟩
theorem s8_actCount : pm_S 8 4 (RX8, "actCount", "I") false (.int) := ⟨RX8, TX8, 5, tyX8, rfl, by decide, rfl, inX8, by decide +kernel, tyX8_ok, nmX8⟩
set_option maxRecDepth 100000 in
theorem inX9 : ∀ w ∈ u_ws RX9 TX9 15, w ∈ pm_tbl := by decide +kernel
theorem s9_casters : pm_S 9 0 (RX9, "casters", "[LStalkRoom$Caster;") true (.array (.object "StalkRoom$Caster")) := ⟨RX9, TX9, 15, tyX9, rfl, by decide, rfl, inX9, by decide +kernel, tyX9_ok, nmX9⟩
theorem s9_casterCount : pm_S 9 1 (RX9, "casterCount", "I") false (.int) := ⟨RX9, TX9, 15, tyX9, rfl, by decide, rfl, inX9, by decide +kernel, tyX9_ok, nmX9⟩
theorem s9_figures : pm_S 9 2 (RX9, "figures", "[LStalkRoom$Figure;") true (.array (.object "StalkRoom$Figure")) := ⟨RX9, TX9, 15, tyX9, rfl, by decide, rfl, inX9, by decide +kernel, tyX9_ok, nmX9⟩
theorem s9_spare : pm_S 9 3 (RX9, "spare", "LStalkRoom$Figure;") true (.object "StalkRoom$Figure") := ⟨RX9, TX9, 15, tyX9, rfl, by decide, rfl, inX9, by decide +kernel, tyX9_ok, nmX9⟩
theorem s9_rows : pm_S 9 4 (RX9, "rows", "[LStalkRoom$ByteRow;") true (.array (.object "StalkRoom$ByteRow")) := ⟨RX9, TX9, 15, tyX9, rfl, by decide, rfl, inX9, by decide +kernel, tyX9_ok, nmX9⟩
theorem s9_finder : pm_S 9 5 (RX9, "finder", "LStalkRoom$WayFinder;") true (.object "StalkRoom$WayFinder") := ⟨RX9, TX9, 15, tyX9, rfl, by decide, rfl, inX9, by decide +kernel, tyX9_ok, nmX9⟩
theorem s9_seed : pm_S 9 6 (RX9, "seed", "LStalkRoom$Seed;") true (.object "StalkRoom$Seed") := ⟨RX9, TX9, 15, tyX9, rfl, by decide, rfl, inX9, by decide +kernel, tyX9_ok, nmX9⟩
theorem s9_odds : pm_S 9 7 (RX9, "odds", "LStalkRoom$Odds;") true (.object "StalkRoom$Odds") := ⟨RX9, TX9, 15, tyX9, rfl, by decide, rfl, inX9, by decide +kernel, tyX9_ok, nmX9⟩
theorem s9_parts : pm_S 9 8 (RX9, "parts", "[I") true (.array .int) := ⟨RX9, TX9, 15, tyX9, rfl, by decide, rfl, inX9, by decide +kernel, tyX9_ok, nmX9⟩
theorem s9_otherParts : pm_S 9 9 (RX9, "otherParts", "[I") true (.array .int) := ⟨RX9, TX9, 15, tyX9, rfl, by decide, rfl, inX9, by decide +kernel, tyX9_ok, nmX9⟩
theorem s9_findingTimes : pm_S 9 10 (RX9, "findingTimes", "[I") true (.array .int) := ⟨RX9, TX9, 15, tyX9, rfl, by decide, rfl, inX9, by decide +kernel, tyX9_ok, nmX9⟩
theorem s9_latestFinding : pm_S 9 11 (RX9, "latestFinding", "I") false (.int) := ⟨RX9, TX9, 15, tyX9, rfl, by decide, rfl, inX9, by decide +kernel, tyX9_ok, nmX9⟩
theorem s9_lastAsked : pm_S 9 12 (RX9, "lastAsked", "J") false (.long) := ⟨RX9, TX9, 15, tyX9, rfl, by decide, rfl, inX9, by decide +kernel, tyX9_ok, nmX9⟩
theorem s9_fractionUpper : pm_S 9 13 (RX9, "fractionUpper", "J") false (.long) := ⟨RX9, TX9, 15, tyX9, rfl, by decide, rfl, inX9, by decide +kernel, tyX9_ok, nmX9⟩
theorem s9_fractionLower : pm_S 9 14 (RX9, "fractionLower", "J") false (.long) := ⟨RX9, TX9, 15, tyX9, rfl, by decide, rfl, inX9, by decide +kernel, tyX9_ok, nmX9⟩
set_option maxRecDepth 100000 in
theorem inX10 : ∀ w ∈ u_ws RX10 TX10 33, w ∈ pm_tbl := by decide +kernel
theorem s10_finding : pm_S 10 0 (RX10, "finding", "I") false (.int) := ⟨RX10, TX10, 33, tyX10, rfl, by decide, rfl, inX10, by decide +kernel, tyX10_ok, nmX10⟩
theorem s10_findings : pm_S 10 1 (RX10, "findings", "[I") true (.array .int) := ⟨RX10, TX10, 33, tyX10, rfl, by decide, rfl, inX10, by decide +kernel, tyX10_ok, nmX10⟩
theorem s10_asked : pm_S 10 2 (RX10, "asked", "J") false (.long) := ⟨RX10, TX10, 33, tyX10, rfl, by decide, rfl, inX10, by decide +kernel, tyX10_ok, nmX10⟩
theorem s10_upper : pm_S 10 3 (RX10, "upper", "J") false (.long) := ⟨RX10, TX10, 33, tyX10, rfl, by decide, rfl, inX10, by decide +kernel, tyX10_ok, nmX10⟩
theorem s10_lower : pm_S 10 4 (RX10, "lower", "J") false (.long) := ⟨RX10, TX10, 33, tyX10, rfl, by decide, rfl, inX10, by decide +kernel, tyX10_ok, nmX10⟩
theorem s10_casters : pm_S 10 5 (RX10, "casters", "I") false (.int) := ⟨RX10, TX10, 33, tyX10, rfl, by decide, rfl, inX10, by decide +kernel, tyX10_ok, nmX10⟩
theorem s10_kinds : pm_S 10 6 (RX10, "kinds", "[I") true (.array .int) := ⟨RX10, TX10, 33, tyX10, rfl, by decide, rfl, inX10, by decide +kernel, tyX10_ok, nmX10⟩
theorem s10_sticks : pm_S 10 7 (RX10, "sticks", "[I") true (.array .int) := ⟨RX10, TX10, 33, tyX10, rfl, by decide, rfl, inX10, by decide +kernel, tyX10_ok, nmX10⟩
theorem s10_counts : pm_S 10 8 (RX10, "counts", "[I") true (.array .int) := ⟨RX10, TX10, 33, tyX10, rfl, by decide, rfl, inX10, by decide +kernel, tyX10_ok, nmX10⟩
theorem s10_hasFinger : pm_S 10 9 (RX10, "hasFinger", "[Z") true (.array .boolean) := ⟨RX10, TX10, 33, tyX10, rfl, by decide, rfl, inX10, by decide +kernel, tyX10_ok, nmX10⟩
theorem s10_lows : pm_S 10 10 (RX10, "lows", "[I") true (.array .int) := ⟨RX10, TX10, 33, tyX10, rfl, by decide, rfl, inX10, by decide +kernel, tyX10_ok, nmX10⟩
theorem s10_highs : pm_S 10 11 (RX10, "highs", "[I") true (.array .int) := ⟨RX10, TX10, 33, tyX10, rfl, by decide, rfl, inX10, by decide +kernel, tyX10_ok, nmX10⟩
theorem s10_ups : pm_S 10 12 (RX10, "ups", "[J") true (.array .long) := ⟨RX10, TX10, 33, tyX10, rfl, by decide, rfl, inX10, by decide +kernel, tyX10_ok, nmX10⟩
theorem s10_lowers : pm_S 10 13 (RX10, "lowers", "[J") true (.array .long) := ⟨RX10, TX10, 33, tyX10, rfl, by decide, rfl, inX10, by decide +kernel, tyX10_ok, nmX10⟩
theorem s10_nextUps : pm_S 10 14 (RX10, "nextUps", "[J") true (.array .long) := ⟨RX10, TX10, 33, tyX10, rfl, by decide, rfl, inX10, by decide +kernel, tyX10_ok, nmX10⟩
theorem s10_nextLowers : pm_S 10 15 (RX10, "nextLowers", "[J") true (.array .long) := ⟨RX10, TX10, 33, tyX10, rfl, by decide, rfl, inX10, by decide +kernel, tyX10_ok, nmX10⟩
theorem s10_oddsUp : pm_S 10 16 (RX10, "oddsUp", "[J") true (.array .long) := ⟨RX10, TX10, 33, tyX10, rfl, by decide, rfl, inX10, by decide +kernel, tyX10_ok, nmX10⟩
theorem s10_oddsLow : pm_S 10 17 (RX10, "oddsLow", "[J") true (.array .long) := ⟨RX10, TX10, 33, tyX10, rfl, by decide, rfl, inX10, by decide +kernel, tyX10_ok, nmX10⟩
theorem s10_sumUp : pm_S 10 18 (RX10, "sumUp", "J") false (.long) := ⟨RX10, TX10, 33, tyX10, rfl, by decide, rfl, inX10, by decide +kernel, tyX10_ok, nmX10⟩
theorem s10_sumLow : pm_S 10 19 (RX10, "sumLow", "J") false (.long) := ⟨RX10, TX10, 33, tyX10, rfl, by decide, rfl, inX10, by decide +kernel, tyX10_ok, nmX10⟩
theorem s10_seed : pm_S 10 20 (RX10, "seed", "J") false (.long) := ⟨RX10, TX10, 33, tyX10, rfl, by decide, rfl, inX10, by decide +kernel, tyX10_ok, nmX10⟩
theorem s10_figures : pm_S 10 21 (RX10, "figures", "[I") true (.array .int) := ⟨RX10, TX10, 33, tyX10, rfl, by decide, rfl, inX10, by decide +kernel, tyX10_ok, nmX10⟩
theorem s10_six : pm_S 10 22 (RX10, "six", "[I") true (.array .int) := ⟨RX10, TX10, 33, tyX10, rfl, by decide, rfl, inX10, by decide +kernel, tyX10_ok, nmX10⟩
theorem s10_far : pm_S 10 23 (RX10, "far", "[I") true (.array .int) := ⟨RX10, TX10, 33, tyX10, rfl, by decide, rfl, inX10, by decide +kernel, tyX10_ok, nmX10⟩
theorem s10_steps : pm_S 10 24 (RX10, "steps", "I") false (.int) := ⟨RX10, TX10, 33, tyX10, rfl, by decide, rfl, inX10, by decide +kernel, tyX10_ok, nmX10⟩
theorem s10_stepRow : pm_S 10 25 (RX10, "stepRow", "[I") true (.array .int) := ⟨RX10, TX10, 33, tyX10, rfl, by decide, rfl, inX10, by decide +kernel, tyX10_ok, nmX10⟩
theorem s10_sizes : pm_S 10 26 (RX10, "sizes", "[I") true (.array .int) := ⟨RX10, TX10, 33, tyX10, rfl, by decide, rfl, inX10, by decide +kernel, tyX10_ok, nmX10⟩
theorem s10_rows : pm_S 10 27 (RX10, "rows", "[I") true (.array .int) := ⟨RX10, TX10, 33, tyX10, rfl, by decide, rfl, inX10, by decide +kernel, tyX10_ok, nmX10⟩
theorem s10_moving : pm_S 10 28 (RX10, "moving", "[I") true (.array .int) := ⟨RX10, TX10, 33, tyX10, rfl, by decide, rfl, inX10, by decide +kernel, tyX10_ok, nmX10⟩
theorem s10_times : pm_S 10 29 (RX10, "times", "[I") true (.array .int) := ⟨RX10, TX10, 33, tyX10, rfl, by decide, rfl, inX10, by decide +kernel, tyX10_ok, nmX10⟩
theorem s10_counted : pm_S 10 30 (RX10, "counted", "I") false (.int) := ⟨RX10, TX10, 33, tyX10, rfl, by decide, rfl, inX10, by decide +kernel, tyX10_ok, nmX10⟩
theorem s10_shares : pm_S 10 31 (RX10, "shares", "[I") true (.array .int) := ⟨RX10, TX10, 33, tyX10, rfl, by decide, rfl, inX10, by decide +kernel, tyX10_ok, nmX10⟩
theorem s10_held : pm_S 10 32 (RX10, "held", "[I") true (.array .int) := ⟨RX10, TX10, 33, tyX10, rfl, by decide, rfl, inX10, by decide +kernel, tyX10_ok, nmX10⟩
