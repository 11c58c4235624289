set_option maxRecDepth 10000 in
set_option maxHeartbeats 4000000 in
theorem c_X8_init {g : Nat → Option pm_C} {x : Int32} (ha : g 7 = some (.inr (8, [.null, .null, .null, .null, .int x]))) : pm_C0 e_X8_init [.ref 7] ((8, g) : pm_H) (pm_up (pm_up (pm_nw (pm_up (pm_nw (pm_up (pm_nw (pm_up (pm_nw ((8, g) : pm_H) (at_I 64 (fun _ => 0))) 7 (.inr (8, [.ref 8, .null, .null, .null, .int x]))) (at_I 64 (fun _ => 0))) 7 (.inr (8, [.ref 8, .ref 9, .null, .null, .int x]))) (at_I 64 (fun _ => 0))) 7 (.inr (8, [.ref 8, .ref 9, .ref 10, .null, .int x]))) (at_I 64 (fun _ => 0))) 7 (.inr (8, [.ref 8, .ref 9, .ref 10, .ref 11, .int x]))) 7 (.inr (8, [.ref 8, .ref 9, .ref 10, .ref 11, .int (nI 0)]))) := by
  refine pm_enter rfl (Nat.le_of_ble_eq_true rfl) ?_
  show pm_V e_X8_init 0 [some (.ref 7)] [] ((8, g) : pm_H) (4, 256) _
  refine r_aload_0 d_X8_init_0 ?_
  refine r_objInit d_X8_init_1 wm_91 wm_64 wm_65 (Nat.le_of_ble_eq_true rfl) (Nat.le_of_ble_eq_true rfl) ?_
  refine r_aload_0 d_X8_init_4 ?_
  refine r_push (v := nI 64) d_X8_init_5 ?_
  refine r_newa (t0 := 0) (N := 64) (x := (64, .inl (fun _ => 0))) (b' := (3, 192)) d_X8_init_7 rfl rfl wm_83 (fun _ _ => rfl) (by decide) rfl (by decide) rfl rfl (fun z => by cases z) (fun C z => by cases z) ?_
  change pm_V _ _ _ (.ref 8 :: _) _ _ _
  refine r_putF d_X8_init_9 s8_waiting rfl rfl ha (Nat.le_of_ble_eq_true rfl) ⟨rfl, rfl⟩ ?_ (pm_nonest rfl)
  refine r_aload_0 d_X8_init_12 ?_
  refine r_push (v := nI 64) d_X8_init_13 ?_
  refine r_newa (t0 := 0) (N := 64) (x := (64, .inl (fun _ => 0))) (b' := (2, 128)) d_X8_init_15 rfl rfl wm_83 (fun _ _ => rfl) (by decide) rfl (by decide) rfl rfl (fun z => by cases z) (fun C z => by cases z) ?_
  change pm_V _ _ _ (.ref 9 :: _) _ _ _
  refine r_putF d_X8_init_17 s8_before rfl rfl rfl (Nat.le_of_ble_eq_true rfl) ⟨rfl, rfl⟩ ?_ (pm_nonest rfl)
  refine r_aload_0 d_X8_init_20 ?_
  refine r_push (v := nI 64) d_X8_init_21 ?_
  refine r_newa (t0 := 0) (N := 64) (x := (64, .inl (fun _ => 0))) (b' := (1, 64)) d_X8_init_23 rfl rfl wm_83 (fun _ _ => rfl) (by decide) rfl (by decide) rfl rfl (fun z => by cases z) (fun C z => by cases z) ?_
  change pm_V _ _ _ (.ref 10 :: _) _ _ _
  refine r_putF d_X8_init_25 s8_metBy rfl rfl rfl (Nat.le_of_ble_eq_true rfl) ⟨rfl, rfl⟩ ?_ (pm_nonest rfl)
  refine r_aload_0 d_X8_init_28 ?_
  refine r_push (v := nI 64) d_X8_init_29 ?_
  refine r_newa (t0 := 0) (N := 64) (x := (64, .inl (fun _ => 0))) (b' := (0, 0)) d_X8_init_31 rfl rfl wm_83 (fun _ _ => rfl) (by decide) rfl (by decide) rfl rfl (fun z => by cases z) (fun C z => by cases z) ?_
  change pm_V _ _ _ (.ref 11 :: _) _ _ _
  refine r_putF d_X8_init_33 s8_acts rfl rfl rfl (Nat.le_of_ble_eq_true rfl) ⟨rfl, rfl⟩ ?_ (pm_nonest rfl)
  refine r_aload_0 d_X8_init_36 ?_
  refine r_push (v := nI 0) d_X8_init_37 ?_
  refine r_put d_X8_init_38 s8_actCount rfl (Nat.le_of_ble_eq_true rfl) ⟨rfl, rfl⟩ ?_
  refine r_return d_X8_init_41 rfl ?_
  exact ⟨rfl, rfl⟩
set_option maxRecDepth 10000 in
set_option maxHeartbeats 4000000 in
theorem c_X4_init {g : Nat → Option pm_C} {x : Int64} (ha : g 13 = some (.inr (4, [.null, .null, .null, .long x]))) : pm_C0 e_X4_init [.ref 13] ((14, g) : pm_H) (pm_up (pm_up (pm_nw (pm_up (pm_nw (pm_up (pm_nw ((14, g) : pm_H) (at_J 31 (fun _ => 0))) 13 (.inr (4, [.ref 14, .null, .null, .long x]))) (at_J 61 (fun _ => 0))) 13 (.inr (4, [.ref 14, .ref 15, .null, .long x]))) (at_J 61 (fun _ => 0))) 13 (.inr (4, [.ref 14, .ref 15, .ref 16, .long x]))) 13 (.inr (4, [.ref 14, .ref 15, .ref 16, .long (lN 1)]))) := by
  refine pm_enter rfl (Nat.le_of_ble_eq_true rfl) ?_
  show pm_V e_X4_init 0 [some (.ref 13)] [] ((14, g) : pm_H) (3, 153) _
  refine r_aload_0 d_X4_init_0 ?_
  refine r_objInit d_X4_init_1 wm_123 wm_64 wm_65 (Nat.le_of_ble_eq_true rfl) (Nat.le_of_ble_eq_true rfl) ?_
  refine r_aload_0 d_X4_init_4 ?_
  refine r_push (v := nI 31) d_X4_init_5 ?_
  refine r_newa (t0 := 1) (N := 31) (x := (31, .inr (.inl (fun _ => 0)))) (b' := (2, 122)) d_X4_init_7 rfl rfl wm_145 (fun _ _ => rfl) (by decide) rfl (by decide) rfl rfl (fun z => by cases z) (fun C z => by cases z) ?_
  change pm_V _ _ _ (.ref 14 :: _) _ _ _
  refine r_putF d_X4_init_9 s4_weights rfl rfl ha (Nat.le_of_ble_eq_true rfl) ⟨rfl, rfl⟩ ?_ (pm_nonest rfl)
  refine r_aload_0 d_X4_init_12 ?_
  refine r_push (v := nI 61) d_X4_init_13 ?_
  refine r_newa (t0 := 1) (N := 61) (x := (61, .inr (.inl (fun _ => 0)))) (b' := (1, 61)) d_X4_init_15 rfl rfl wm_145 (fun _ _ => rfl) (by decide) rfl (by decide) rfl rfl (fun z => by cases z) (fun C z => by cases z) ?_
  change pm_V _ _ _ (.ref 15 :: _) _ _ _
  refine r_putF d_X4_init_17 s4_heaps rfl rfl rfl (Nat.le_of_ble_eq_true rfl) ⟨rfl, rfl⟩ ?_ (pm_nonest rfl)
  refine r_aload_0 d_X4_init_20 ?_
  refine r_push (v := nI 61) d_X4_init_21 ?_
  refine r_newa (t0 := 1) (N := 61) (x := (61, .inr (.inl (fun _ => 0)))) (b' := (0, 0)) d_X4_init_23 rfl rfl wm_145 (fun _ _ => rfl) (by decide) rfl (by decide) rfl rfl (fun z => by cases z) (fun C z => by cases z) ?_
  change pm_V _ _ _ (.ref 16 :: _) _ _ _
  refine r_putF d_X4_init_25 s4_nextHeaps rfl rfl rfl (Nat.le_of_ble_eq_true rfl) ⟨rfl, rfl⟩ ?_ (pm_nonest rfl)
  refine r_aload_0 d_X4_init_28 ?_
  refine r_pushl (v := lN 1) d_X4_init_29 ?_
  refine r_put d_X4_init_30 s4_all rfl (Nat.le_of_ble_eq_true rfl) ⟨rfl, rfl⟩ ?_
  refine r_return d_X4_init_33 rfl ?_
  exact ⟨rfl, rfl⟩
def xi0 (k : Nat) : Int32 := if k < 3 then 0 else -1
def xl0 (k : Nat) : Int64 := if k = 2 then 1 else if k = 4 then 1 else 0
def XA0 (q : Nat) : Nat → Int32 := if q = 5 ∨ (20 ≤ q ∧ q ≤ 35) then pm_fl (nI 8) (fun _ => 0) 6 else fun _ => 0
theorem x_fa_e : (va_up (va_up (va_up (va_up (va_up (va_up (va_up (va_up (fun _ => none) 0 (some 20)) 1 (some 22)) 2 (some 24)) 3 (some 26)) 4 (some 28)) 5 (some 30)) 6 (some 32)) 7 (some 34)) = x_fa := by
  funext f
  by_cases hf : f < 8
  · exact x8 (p := fun f => (va_up (va_up (va_up (va_up (va_up (va_up (va_up (va_up (fun _ => none) 0 (some 20)) 1 (some 22)) 2 (some 24)) 3 (some 26)) 4 (some 28)) 5 (some 30)) 6 (some 32)) 7 (some 34)) f = x_fa f) hf rfl rfl rfl rfl rfl rfl rfl rfl
  · simp only [va_up, x_fa]
    rw [if_neg hf]
    repeat (rw [if_neg (by omega)])
theorem x_ra_e : (va_up (va_up (va_up (va_up (fun _ => none) 0 (some 36)) 1 (some 38)) 2 (some 40)) 3 (some 42)) = x_ra := by
  funext f
  by_cases hf : f < 4
  · exact x4 (p := fun f => (va_up (va_up (va_up (va_up (fun _ => none) 0 (some 36)) 1 (some 38)) 2 (some 40)) 3 (some 42)) f = x_ra f) hf rfl rfl rfl rfl
  · simp only [va_up, x_ra]
    rw [if_neg hf]
    repeat (rw [if_neg (by omega)])
set_option maxRecDepth 10000 in
set_option maxHeartbeats 4000000 in
theorem c_X9_init {g : Nat → Option pm_C} (ha : g 1 = some (.inr (9, [.null, .int 0, .null, .null, .null, .null, .null, .null, .null, .null, .null, .int 0, .long 0, .long 0, .long 0]))) : pm_C0 e_X9_init [.ref 1] ((2, g) : pm_H) (pmX ((44, g) : pm_H) xi0 xl0 (fun _ => none) XA0 (fun _ _ => 0)) := by
  refine pm_enter rfl (Nat.le_of_ble_eq_true rfl) ?_
  show pm_V e_X9_init 0 [some (.ref 1), none] [] ((2, g) : pm_H) (42, 836) _
  refine r_aload_0 d_X9_init_0 ?_
  refine r_objInit d_X9_init_1 wm_63 wm_64 wm_65 (Nat.le_of_ble_eq_true rfl) (Nat.le_of_ble_eq_true rfl) ?_
  refine r_aload_0 d_X9_init_4 ?_
  refine r_push (v := nI 10) d_X9_init_5 ?_
  refine r_newq (t0 := 4) (N := 10) (b' := (41, 826)) d_X9_init_7 wm_66 wm_67 rfl (by decide) rfl (by decide) rfl rfl ?_
  change pm_V _ _ _ (.ref 2 :: _) _ _ _
  refine r_putF d_X9_init_10 s9_casters rfl rfl ha (Nat.le_of_ble_eq_true rfl) ⟨rfl, rfl⟩ ?_ (pm_nonest rfl)
  refine r_aload_0 d_X9_init_13 ?_
  refine r_push (v := nI 0) d_X9_init_14 ?_
  refine r_put d_X9_init_15 s9_casterCount rfl (Nat.le_of_ble_eq_true rfl) ⟨rfl, rfl⟩ ?_
  refine r_aload_0 d_X9_init_18 ?_
  refine r_push (v := nI 8) d_X9_init_19 ?_
  refine r_newq (t0 := 5) (N := 8) (b' := (40, 818)) d_X9_init_21 wm_68 wm_69 rfl (by decide) rfl (by decide) rfl rfl ?_
  change pm_V _ _ _ (.ref 3 :: _) _ _ _
  refine r_putF d_X9_init_24 s9_figures rfl rfl rfl (Nat.le_of_ble_eq_true rfl) ⟨rfl, rfl⟩ ?_ (pm_nonest rfl)
  refine r_aload_0 d_X9_init_27 ?_
  refine r_new (b' := (39, 817)) d_X9_init_28 rfl rfl ?_
  change pm_V _ _ _ (.ref 4 :: _) _ _ _
  refine r_dup d_X9_init_31 rfl ?_
  refine r_I0v (b' := (38, 811)) d_X9_init_32 (c_X3_init (N := 5) rfl (by decide) rfl) rfl rfl (Nat.le_of_ble_eq_true rfl) ?_
  refine r_putF d_X9_init_35 s9_spare rfl rfl rfl (Nat.le_of_ble_eq_true rfl) ⟨rfl, rfl⟩ ?_ (pm_nonest rfl)
  refine r_aload_0 d_X9_init_38 ?_
  refine r_push (v := nI 4) d_X9_init_39 ?_
  refine r_newq (t0 := 6) (N := 4) (b' := (37, 807)) d_X9_init_40 wm_84 wm_85 rfl (by decide) rfl (by decide) rfl rfl ?_
  change pm_V _ _ _ (.ref 6 :: _) _ _ _
  refine r_putF d_X9_init_43 s9_rows rfl rfl rfl (Nat.le_of_ble_eq_true rfl) ⟨rfl, rfl⟩ ?_ (pm_nonest rfl)
  refine r_aload_0 d_X9_init_46 ?_
  refine r_new (b' := (36, 802)) d_X9_init_47 rfl rfl ?_
  change pm_V _ _ _ (.ref 7 :: _) _ _ _
  refine r_dup d_X9_init_50 rfl ?_
  refine r_I0v (b' := (32, 546)) d_X9_init_51 (c_X8_init (x := 0) rfl) rfl rfl (Nat.le_of_ble_eq_true rfl) ?_
  refine r_putF d_X9_init_54 s9_finder rfl rfl rfl (Nat.le_of_ble_eq_true rfl) ⟨rfl, rfl⟩ ?_ (pm_nonest rfl)
  refine r_aload_0 d_X9_init_57 ?_
  refine r_new (b' := (31, 545)) d_X9_init_58 rfl rfl ?_
  change pm_V _ _ _ (.ref 12 :: _) _ _ _
  refine r_dup d_X9_init_61 rfl ?_
  refine r_I0v (b' := (31, 545)) d_X9_init_62 (c_X5_init (x := 0) rfl) rfl rfl (Nat.le_of_ble_eq_true rfl) ?_
  refine r_putF d_X9_init_65 s9_seed rfl rfl rfl (Nat.le_of_ble_eq_true rfl) ⟨rfl, rfl⟩ ?_ (pm_nonest rfl)
  refine r_aload_0 d_X9_init_68 ?_
  refine r_new (b' := (30, 541)) d_X9_init_69 rfl rfl ?_
  change pm_V _ _ _ (.ref 13 :: _) _ _ _
  refine r_dup d_X9_init_72 rfl ?_
  refine r_I0v (b' := (27, 388)) d_X9_init_73 (c_X4_init (x := 0) rfl) rfl rfl (Nat.le_of_ble_eq_true rfl) ?_
  refine r_putF d_X9_init_76 s9_odds rfl rfl rfl (Nat.le_of_ble_eq_true rfl) ⟨rfl, rfl⟩ ?_ (pm_nonest rfl)
  refine r_aload_0 d_X9_init_79 ?_
  refine r_push (v := nI 31) d_X9_init_80 ?_
  refine r_newa (t0 := 0) (N := 31) (x := (31, .inl (fun _ => 0))) (b' := (26, 357)) d_X9_init_82 rfl rfl wm_83 (fun _ _ => rfl) (by decide) rfl (by decide) rfl rfl (fun z => by cases z) (fun C z => by cases z) ?_
  change pm_V _ _ _ (.ref 17 :: _) _ _ _
  refine r_putF d_X9_init_84 s9_parts rfl rfl rfl (Nat.le_of_ble_eq_true rfl) ⟨rfl, rfl⟩ ?_ (pm_nonest rfl)
  refine r_aload_0 d_X9_init_87 ?_
  refine r_push (v := nI 31) d_X9_init_88 ?_
  refine r_newa (t0 := 0) (N := 31) (x := (31, .inl (fun _ => 0))) (b' := (25, 326)) d_X9_init_90 rfl rfl wm_83 (fun _ _ => rfl) (by decide) rfl (by decide) rfl rfl (fun z => by cases z) (fun C z => by cases z) ?_
  change pm_V _ _ _ (.ref 18 :: _) _ _ _
  refine r_putF d_X9_init_92 s9_otherParts rfl rfl rfl (Nat.le_of_ble_eq_true rfl) ⟨rfl, rfl⟩ ?_ (pm_nonest rfl)
  refine r_aload_0 d_X9_init_95 ?_
  refine r_push (v := nI 6) d_X9_init_96 ?_
  refine r_newa (t0 := 0) (N := 6) (x := (6, .inl (fun _ => 0))) (b' := (24, 320)) d_X9_init_98 rfl rfl wm_83 (fun _ _ => rfl) (by decide) rfl (by decide) rfl rfl (fun z => by cases z) (fun C z => by cases z) ?_
  change pm_V _ _ _ (.ref 19 :: _) _ _ _
  refine r_putF d_X9_init_100 s9_findingTimes rfl rfl rfl (Nat.le_of_ble_eq_true rfl) ⟨rfl, rfl⟩ ?_ (pm_nonest rfl)
  refine r_aload_0 d_X9_init_103 ?_
  refine r_push (v := nI 0) d_X9_init_104 ?_
  refine r_put d_X9_init_105 s9_latestFinding rfl (Nat.le_of_ble_eq_true rfl) ⟨rfl, rfl⟩ ?_
  refine r_aload_0 d_X9_init_108 ?_
  refine r_pushl (v := lN 0) d_X9_init_109 ?_
  refine r_put d_X9_init_110 s9_lastAsked rfl (Nat.le_of_ble_eq_true rfl) ⟨rfl, rfl⟩ ?_
  refine r_aload_0 d_X9_init_113 ?_
  refine r_pushl (v := lN 0) d_X9_init_114 ?_
  refine r_put d_X9_init_115 s9_fractionUpper rfl (Nat.le_of_ble_eq_true rfl) ⟨rfl, rfl⟩ ?_
  refine r_aload_0 d_X9_init_118 ?_
  refine r_pushl (v := lN 1) d_X9_init_119 ?_
  refine r_put d_X9_init_120 s9_fractionLower rfl (Nat.le_of_ble_eq_true rfl) ⟨rfl, rfl⟩ ?_
  refine r_push (v := nI 0) d_X9_init_123 ?_
  refine r_istore_1 d_X9_init_124 (Nat.le_of_ble_eq_true rfl) (fun w hw => by cases hw <;> rfl) ?_
  refine r_iload_1 d_X9_init_125 ?_
  refine r_push (v := nI 8) d_X9_init_126 ?_
  refine r_icmp_ge d_X9_init_128 (fun c128 => absurd c128 (by decide)) (fun c128 => ?_)
  clear c128
  refine r_aload_0 d_X9_init_131 ?_
  refine r_get d_X9_init_132 s9_figures rfl rfl ?_
  refine r_iload_1 d_X9_init_135 ?_
  refine r_new (b' := (23, 319)) d_X9_init_136 rfl rfl ?_
  change pm_V _ _ _ (.ref 20 :: _) _ _ _
  refine r_dup d_X9_init_139 rfl ?_
  refine r_I0v (b' := (22, 313)) d_X9_init_140 (c_X3_init (N := 21) rfl (by decide) rfl) rfl rfl (Nat.le_of_ble_eq_true rfl) ?_
  refine r_aastRX3 d_X9_init_143 rfl rfl rfl (Or.inl rfl) (pm_ixN (by omega) (by omega)) ?_
  refine r_iinc_1 d_X9_init_144 (Nat.le_of_ble_eq_true rfl) (fun w hw => by cases hw <;> rfl) ?_
  rw [show nI 0 + 1 = nI 1 from rfl]
  refine r_goto d_X9_init_147 ?_
  refine r_iload_1 d_X9_init_125 ?_
  refine r_push (v := nI 8) d_X9_init_126 ?_
  refine r_icmp_ge d_X9_init_128 (fun c128 => absurd c128 (by decide)) (fun c128 => ?_)
  clear c128
  refine r_aload_0 d_X9_init_131 ?_
  refine r_get d_X9_init_132 s9_figures rfl rfl ?_
  refine r_iload_1 d_X9_init_135 ?_
  refine r_new (b' := (21, 312)) d_X9_init_136 rfl rfl ?_
  change pm_V _ _ _ (.ref 22 :: _) _ _ _
  refine r_dup d_X9_init_139 rfl ?_
  refine r_I0v (b' := (20, 306)) d_X9_init_140 (c_X3_init (N := 23) rfl (by decide) rfl) rfl rfl (Nat.le_of_ble_eq_true rfl) ?_
  refine r_aastRX3 d_X9_init_143 rfl rfl rfl (Or.inl rfl) (pm_ixN (by omega) (by omega)) ?_
  refine r_iinc_1 d_X9_init_144 (Nat.le_of_ble_eq_true rfl) (fun w hw => by cases hw <;> rfl) ?_
  rw [show nI 1 + 1 = nI 2 from rfl]
  refine r_goto d_X9_init_147 ?_
  refine r_iload_1 d_X9_init_125 ?_
  refine r_push (v := nI 8) d_X9_init_126 ?_
  refine r_icmp_ge d_X9_init_128 (fun c128 => absurd c128 (by decide)) (fun c128 => ?_)
  clear c128
  refine r_aload_0 d_X9_init_131 ?_
  refine r_get d_X9_init_132 s9_figures rfl rfl ?_
  refine r_iload_1 d_X9_init_135 ?_
  refine r_new (b' := (19, 305)) d_X9_init_136 rfl rfl ?_
  change pm_V _ _ _ (.ref 24 :: _) _ _ _
  refine r_dup d_X9_init_139 rfl ?_
  refine r_I0v (b' := (18, 299)) d_X9_init_140 (c_X3_init (N := 25) rfl (by decide) rfl) rfl rfl (Nat.le_of_ble_eq_true rfl) ?_
  refine r_aastRX3 d_X9_init_143 rfl rfl rfl (Or.inl rfl) (pm_ixN (by omega) (by omega)) ?_
  refine r_iinc_1 d_X9_init_144 (Nat.le_of_ble_eq_true rfl) (fun w hw => by cases hw <;> rfl) ?_
  rw [show nI 2 + 1 = nI 3 from rfl]
  refine r_goto d_X9_init_147 ?_
  refine r_iload_1 d_X9_init_125 ?_
  refine r_push (v := nI 8) d_X9_init_126 ?_
  refine r_icmp_ge d_X9_init_128 (fun c128 => absurd c128 (by decide)) (fun c128 => ?_)
  clear c128
  refine r_aload_0 d_X9_init_131 ?_
  refine r_get d_X9_init_132 s9_figures rfl rfl ?_
  refine r_iload_1 d_X9_init_135 ?_
  refine r_new (b' := (17, 298)) d_X9_init_136 rfl rfl ?_
  change pm_V _ _ _ (.ref 26 :: _) _ _ _
  refine r_dup d_X9_init_139 rfl ?_
  refine r_I0v (b' := (16, 292)) d_X9_init_140 (c_X3_init (N := 27) rfl (by decide) rfl) rfl rfl (Nat.le_of_ble_eq_true rfl) ?_
  refine r_aastRX3 d_X9_init_143 rfl rfl rfl (Or.inl rfl) (pm_ixN (by omega) (by omega)) ?_
  refine r_iinc_1 d_X9_init_144 (Nat.le_of_ble_eq_true rfl) (fun w hw => by cases hw <;> rfl) ?_
  rw [show nI 3 + 1 = nI 4 from rfl]
  refine r_goto d_X9_init_147 ?_
  refine r_iload_1 d_X9_init_125 ?_
  refine r_push (v := nI 8) d_X9_init_126 ?_
  refine r_icmp_ge d_X9_init_128 (fun c128 => absurd c128 (by decide)) (fun c128 => ?_)
  clear c128
  refine r_aload_0 d_X9_init_131 ?_
  refine r_get d_X9_init_132 s9_figures rfl rfl ?_
  refine r_iload_1 d_X9_init_135 ?_
  refine r_new (b' := (15, 291)) d_X9_init_136 rfl rfl ?_
  change pm_V _ _ _ (.ref 28 :: _) _ _ _
  refine r_dup d_X9_init_139 rfl ?_
  refine r_I0v (b' := (14, 285)) d_X9_init_140 (c_X3_init (N := 29) rfl (by decide) rfl) rfl rfl (Nat.le_of_ble_eq_true rfl) ?_
  refine r_aastRX3 d_X9_init_143 rfl rfl rfl (Or.inl rfl) (pm_ixN (by omega) (by omega)) ?_
  refine r_iinc_1 d_X9_init_144 (Nat.le_of_ble_eq_true rfl) (fun w hw => by cases hw <;> rfl) ?_
  rw [show nI 4 + 1 = nI 5 from rfl]
  refine r_goto d_X9_init_147 ?_
  refine r_iload_1 d_X9_init_125 ?_
  refine r_push (v := nI 8) d_X9_init_126 ?_
  refine r_icmp_ge d_X9_init_128 (fun c128 => absurd c128 (by decide)) (fun c128 => ?_)
  clear c128
  refine r_aload_0 d_X9_init_131 ?_
  refine r_get d_X9_init_132 s9_figures rfl rfl ?_
  refine r_iload_1 d_X9_init_135 ?_
  refine r_new (b' := (13, 284)) d_X9_init_136 rfl rfl ?_
  change pm_V _ _ _ (.ref 30 :: _) _ _ _
  refine r_dup d_X9_init_139 rfl ?_
  refine r_I0v (b' := (12, 278)) d_X9_init_140 (c_X3_init (N := 31) rfl (by decide) rfl) rfl rfl (Nat.le_of_ble_eq_true rfl) ?_
  refine r_aastRX3 d_X9_init_143 rfl rfl rfl (Or.inl rfl) (pm_ixN (by omega) (by omega)) ?_
  refine r_iinc_1 d_X9_init_144 (Nat.le_of_ble_eq_true rfl) (fun w hw => by cases hw <;> rfl) ?_
  rw [show nI 5 + 1 = nI 6 from rfl]
  refine r_goto d_X9_init_147 ?_
  refine r_iload_1 d_X9_init_125 ?_
  refine r_push (v := nI 8) d_X9_init_126 ?_
  refine r_icmp_ge d_X9_init_128 (fun c128 => absurd c128 (by decide)) (fun c128 => ?_)
  clear c128
  refine r_aload_0 d_X9_init_131 ?_
  refine r_get d_X9_init_132 s9_figures rfl rfl ?_
  refine r_iload_1 d_X9_init_135 ?_
  refine r_new (b' := (11, 277)) d_X9_init_136 rfl rfl ?_
  change pm_V _ _ _ (.ref 32 :: _) _ _ _
  refine r_dup d_X9_init_139 rfl ?_
  refine r_I0v (b' := (10, 271)) d_X9_init_140 (c_X3_init (N := 33) rfl (by decide) rfl) rfl rfl (Nat.le_of_ble_eq_true rfl) ?_
  refine r_aastRX3 d_X9_init_143 rfl rfl rfl (Or.inl rfl) (pm_ixN (by omega) (by omega)) ?_
  refine r_iinc_1 d_X9_init_144 (Nat.le_of_ble_eq_true rfl) (fun w hw => by cases hw <;> rfl) ?_
  rw [show nI 6 + 1 = nI 7 from rfl]
  refine r_goto d_X9_init_147 ?_
  refine r_iload_1 d_X9_init_125 ?_
  refine r_push (v := nI 8) d_X9_init_126 ?_
  refine r_icmp_ge d_X9_init_128 (fun c128 => absurd c128 (by decide)) (fun c128 => ?_)
  clear c128
  refine r_aload_0 d_X9_init_131 ?_
  refine r_get d_X9_init_132 s9_figures rfl rfl ?_
  refine r_iload_1 d_X9_init_135 ?_
  refine r_new (b' := (9, 270)) d_X9_init_136 rfl rfl ?_
  change pm_V _ _ _ (.ref 34 :: _) _ _ _
  refine r_dup d_X9_init_139 rfl ?_
  refine r_I0v (b' := (8, 264)) d_X9_init_140 (c_X3_init (N := 35) rfl (by decide) rfl) rfl rfl (Nat.le_of_ble_eq_true rfl) ?_
  refine r_aastRX3 d_X9_init_143 rfl rfl rfl (Or.inl rfl) (pm_ixN (by omega) (by omega)) ?_
  refine r_iinc_1 d_X9_init_144 (Nat.le_of_ble_eq_true rfl) (fun w hw => by cases hw <;> rfl) ?_
  rw [show nI 7 + 1 = nI 8 from rfl]
  refine r_goto d_X9_init_147 ?_
  refine r_iload_1 d_X9_init_125 ?_
  refine r_push (v := nI 8) d_X9_init_126 ?_
  refine r_icmp_ge d_X9_init_128 (fun c128 => ?_) (fun c128 => absurd (by decide) c128)
  clear c128
  refine r_push (v := nI 0) d_X9_init_150 ?_
  refine r_istore_1 d_X9_init_151 (Nat.le_of_ble_eq_true rfl) (fun w hw => by cases hw <;> rfl) ?_
  refine r_iload_1 d_X9_init_152 ?_
  refine r_push (v := nI 4) d_X9_init_153 ?_
  refine r_icmp_ge d_X9_init_154 (fun c154 => absurd c154 (by decide)) (fun c154 => ?_)
  clear c154
  refine r_aload_0 d_X9_init_157 ?_
  refine r_get d_X9_init_158 s9_rows rfl rfl ?_
  refine r_iload_1 d_X9_init_161 ?_
  refine r_new (b' := (7, 262)) d_X9_init_162 rfl rfl ?_
  change pm_V _ _ _ (.ref 36 :: _) _ _ _
  refine r_dup d_X9_init_165 rfl ?_
  refine r_I0v (b' := (6, 198)) d_X9_init_166 (c_X0_init (N := 37) (x := 0) rfl (by decide) rfl) rfl rfl (Nat.le_of_ble_eq_true rfl) ?_
  refine r_aastRX0 d_X9_init_169 rfl rfl rfl (Or.inl rfl) (pm_ixN (by omega) (by omega)) ?_
  refine r_iinc_1 d_X9_init_170 (Nat.le_of_ble_eq_true rfl) (fun w hw => by cases hw <;> rfl) ?_
  rw [show nI 0 + 1 = nI 1 from rfl]
  refine r_goto d_X9_init_173 ?_
  refine r_iload_1 d_X9_init_152 ?_
  refine r_push (v := nI 4) d_X9_init_153 ?_
  refine r_icmp_ge d_X9_init_154 (fun c154 => absurd c154 (by decide)) (fun c154 => ?_)
  clear c154
  refine r_aload_0 d_X9_init_157 ?_
  refine r_get d_X9_init_158 s9_rows rfl rfl ?_
  refine r_iload_1 d_X9_init_161 ?_
  refine r_new (b' := (5, 196)) d_X9_init_162 rfl rfl ?_
  change pm_V _ _ _ (.ref 38 :: _) _ _ _
  refine r_dup d_X9_init_165 rfl ?_
  refine r_I0v (b' := (4, 132)) d_X9_init_166 (c_X0_init (N := 39) (x := 0) rfl (by decide) rfl) rfl rfl (Nat.le_of_ble_eq_true rfl) ?_
  refine r_aastRX0 d_X9_init_169 rfl rfl rfl (Or.inl rfl) (pm_ixN (by omega) (by omega)) ?_
  refine r_iinc_1 d_X9_init_170 (Nat.le_of_ble_eq_true rfl) (fun w hw => by cases hw <;> rfl) ?_
  rw [show nI 1 + 1 = nI 2 from rfl]
  refine r_goto d_X9_init_173 ?_
  refine r_iload_1 d_X9_init_152 ?_
  refine r_push (v := nI 4) d_X9_init_153 ?_
  refine r_icmp_ge d_X9_init_154 (fun c154 => absurd c154 (by decide)) (fun c154 => ?_)
  clear c154
  refine r_aload_0 d_X9_init_157 ?_
  refine r_get d_X9_init_158 s9_rows rfl rfl ?_
  refine r_iload_1 d_X9_init_161 ?_
  refine r_new (b' := (3, 130)) d_X9_init_162 rfl rfl ?_
  change pm_V _ _ _ (.ref 40 :: _) _ _ _
  refine r_dup d_X9_init_165 rfl ?_
  refine r_I0v (b' := (2, 66)) d_X9_init_166 (c_X0_init (N := 41) (x := 0) rfl (by decide) rfl) rfl rfl (Nat.le_of_ble_eq_true rfl) ?_
  refine r_aastRX0 d_X9_init_169 rfl rfl rfl (Or.inl rfl) (pm_ixN (by omega) (by omega)) ?_
  refine r_iinc_1 d_X9_init_170 (Nat.le_of_ble_eq_true rfl) (fun w hw => by cases hw <;> rfl) ?_
  rw [show nI 2 + 1 = nI 3 from rfl]
  refine r_goto d_X9_init_173 ?_
  refine r_iload_1 d_X9_init_152 ?_
  refine r_push (v := nI 4) d_X9_init_153 ?_
  refine r_icmp_ge d_X9_init_154 (fun c154 => absurd c154 (by decide)) (fun c154 => ?_)
  clear c154
  refine r_aload_0 d_X9_init_157 ?_
  refine r_get d_X9_init_158 s9_rows rfl rfl ?_
  refine r_iload_1 d_X9_init_161 ?_
  refine r_new (b' := (1, 64)) d_X9_init_162 rfl rfl ?_
  change pm_V _ _ _ (.ref 42 :: _) _ _ _
  refine r_dup d_X9_init_165 rfl ?_
  refine r_I0v (b' := (0, 0)) d_X9_init_166 (c_X0_init (N := 43) (x := 0) rfl (by decide) rfl) rfl rfl (Nat.le_of_ble_eq_true rfl) ?_
  refine r_aastRX0 d_X9_init_169 rfl rfl rfl (Or.inl rfl) (pm_ixN (by omega) (by omega)) ?_
  refine r_iinc_1 d_X9_init_170 (Nat.le_of_ble_eq_true rfl) (fun w hw => by cases hw <;> rfl) ?_
  rw [show nI 3 + 1 = nI 4 from rfl]
  refine r_goto d_X9_init_173 ?_
  refine r_iload_1 d_X9_init_152 ?_
  refine r_push (v := nI 4) d_X9_init_153 ?_
  refine r_icmp_ge d_X9_init_154 (fun c154 => ?_) (fun c154 => absurd (by decide) c154)
  clear c154
  refine r_return d_X9_init_176 rfl ?_
  refine ⟨rfl, Prod.ext rfl (funext fun q => ?_)⟩
  by_cases hq : 1 ≤ q ∧ q ≤ 43
  · rcases (show q = 1 ∨ q = 2 ∨ q = 3 ∨ q = 4 ∨ q = 5 ∨ q = 6 ∨ q = 7 ∨ q = 8 ∨ q = 9 ∨ q = 10 ∨ q = 11 ∨ q = 12 ∨ q = 13 ∨ q = 14 ∨ q = 15 ∨ q = 16 ∨ q = 17 ∨ q = 18 ∨ q = 19 ∨ q = 20 ∨ q = 21 ∨ q = 22 ∨ q = 23 ∨ q = 24 ∨ q = 25 ∨ q = 26 ∨ q = 27 ∨ q = 28 ∨ q = 29 ∨ q = 30 ∨ q = 31 ∨ q = 32 ∨ q = 33 ∨ q = 34 ∨ q = 35 ∨ q = 36 ∨ q = 37 ∨ q = 38 ∨ q = 39 ∨ q = 40 ∨ q = 41 ∨ q = 42 ∨ q = 43 by omega) with rfl | rfl | rfl | rfl | rfl | rfl | rfl | rfl | rfl | rfl | rfl | rfl | rfl | rfl | rfl | rfl | rfl | rfl | rfl | rfl | rfl | rfl | rfl | rfl | rfl | rfl | rfl | rfl | rfl | rfl | rfl | rfl | rfl | rfl | rfl | rfl | rfl | rfl | rfl | rfl | rfl | rfl | rfl <;> first | rfl | exact congrArg (fun f => some (Sum.inl (FieldType.object RX3, 8, Sum.inr (Sum.inr (Sum.inr (Sum.inr f)))))) x_fa_e | exact congrArg (fun f => some (Sum.inl (FieldType.object RX0, 4, Sum.inr (Sum.inr (Sum.inr (Sum.inr f)))))) x_ra_e
  · refine Eq.trans ?_ (if_neg hq).symm
    repeat (first | refine pm_ne (fun e => hq (by rw [e]; exact ⟨Nat.le_of_ble_eq_true rfl, Nat.le_of_ble_eq_true rfl⟩)) ?_ | refine pm_nwne (fun e => hq (by rw [e]; exact ⟨Nat.le_of_ble_eq_true rfl, Nat.le_of_ble_eq_true rfl⟩)) ?_)
    rfl
