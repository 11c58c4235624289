theorem pm_fl_sv (v : Int32) (f : Nat → Int32) (i : Nat) : upd (pm_fl v f i) i v = pm_fl v f (i + 1) := pm_fl_s v f i
set_option maxRecDepth 10000 in
set_option maxHeartbeats 4000000 in
theorem lp_X10_init {h : pm_H} {mi : Nat → Int32} {ml : Nat → Int64} {A : Nat → Nat → Int32} {B : Nat → Nat → Int64} {F : Option Value → pm_H → Prop} {b : Nat × Nat}  (K : pm_V e_X10_init 220 [some (.ref 44), some (.int (nI 4))] [] (pmM h mi ml (va_up A 62 (pm_fl (-9) (A 62) 4)) B) b F) : ∀ (d i : Nat), i + d = 4 → pm_V e_X10_init 201 [some (.ref 44), some (.int (nI i))] [] (pmM h mi ml (va_up A 62 (pm_fl (-9) (A 62) i)) B) b F := by
  intro d
  induction d with
  | zero =>
    intro i hi
    obtain rfl : i = 4 := by omega
    refine r_iload_1 d_X10_init_201 ?_
    refine r_push (v := nI 4) d_X10_init_202 ?_
    refine r_icmp_ge d_X10_init_203 (fun c203 => ?_) (fun c203 => absurd (by decide) c203)
    clear c203
    exact K
  | succ d ih =>
    intro i hi
    refine r_iload_1 d_X10_init_201 ?_
    refine r_push (v := nI 4) d_X10_init_202 ?_
    refine r_icmp_ge d_X10_init_203 (fun c203 => ?_) (fun c203 => ?_)
    · -- taken at 203
      have c203 : 4 ≤ i := (nI_leI (a := 4) (b := i) (by omega) (by omega)).mp c203
      exfalso; omega
    · -- not taken at 203
      have c203 : ¬ 4 ≤ i := fun zz9 => c203 ((nI_leI (a := 4) (b := i) (by omega) (by omega)).mpr zz9)
      refine r_aload_0 d_X10_init_206 ?_
      refine r_get d_X10_init_207 s10_sizes rfl rfl ?_
      refine r_iload_1 d_X10_init_210 ?_
      refine r_push d_X10_init_211 ?_
      refine r_iast d_X10_init_213 rfl (pm_ixN (by omega) (by omega)) ?_
      rw [pmM_sizes, m_aua, show upd (va_up A 62 (pm_fl (-9) (A 62) i) 62) i (-9) = pm_fl (-9) (A 62) (i + 1) from pm_fl_sv _ _ _]
      refine r_iinc_1 d_X10_init_214 (Nat.le_of_ble_eq_true rfl) (fun w hw => by cases hw <;> rfl) ?_
      rw [nI_1]
      refine r_goto d_X10_init_217 ?_
      exact ih (i + 1) (by omega)
set_option maxRecDepth 10000 in
set_option maxHeartbeats 4000000 in
theorem lq_X10_init {h : pm_H} {mi : Nat → Int32} {ml : Nat → Int64} {A : Nat → Nat → Int32} {B : Nat → Nat → Int64} {F : Option Value → pm_H → Prop} {b : Nat × Nat}  (K : pm_V e_X10_init 242 [some (.ref 44), some (.int (nI 48))] [] (pmM h mi ml (va_up A 58 (pm_fl (nI 8) (A 58) 48)) B) b F) : ∀ (d i : Nat), i + d = 48 → pm_V e_X10_init 222 [some (.ref 44), some (.int (nI i))] [] (pmM h mi ml (va_up A 58 (pm_fl (nI 8) (A 58) i)) B) b F := by
  intro d
  induction d with
  | zero =>
    intro i hi
    obtain rfl : i = 48 := by omega
    refine r_iload_1 d_X10_init_222 ?_
    refine r_push (v := nI 48) d_X10_init_223 ?_
    refine r_icmp_ge d_X10_init_225 (fun c225 => ?_) (fun c225 => absurd (by decide) c225)
    clear c225
    exact K
  | succ d ih =>
    intro i hi
    refine r_iload_1 d_X10_init_222 ?_
    refine r_push (v := nI 48) d_X10_init_223 ?_
    refine r_icmp_ge d_X10_init_225 (fun c225 => ?_) (fun c225 => ?_)
    · -- taken at 225
      have c225 : 48 ≤ i := (nI_leI (a := 48) (b := i) (by omega) (by omega)).mp c225
      exfalso; omega
    · -- not taken at 225
      have c225 : ¬ 48 ≤ i := fun zz9 => c225 ((nI_leI (a := 48) (b := i) (by omega) (by omega)).mpr zz9)
      refine r_aload_0 d_X10_init_228 ?_
      refine r_get d_X10_init_229 s10_figures rfl rfl ?_
      refine r_iload_1 d_X10_init_232 ?_
      refine r_push (v := nI 8) d_X10_init_233 ?_
      refine r_iast d_X10_init_235 rfl (pm_ixN (by omega) (by omega)) ?_
      rw [pmM_figures, m_aua, show upd (va_up A 58 (pm_fl (nI 8) (A 58) i) 58) i (nI 8) = pm_fl (nI 8) (A 58) (i + 1) from pm_fl_sv _ _ _]
      refine r_iinc_1 d_X10_init_236 (Nat.le_of_ble_eq_true rfl) (fun w hw => by cases hw <;> rfl) ?_
      rw [nI_1]
      refine r_goto d_X10_init_239 ?_
      exact ih (i + 1) (by omega)
def mi0 (k : Nat) : Int32 := if k = 2 then -9 else 0
def ml0 (k : Nat) : Int64 := if k = 2 then 1 else 0
def Az : Nat → Nat → Int32 := fun _ _ => 0
def A0 : Nat → Nat → Int32 := va_up (va_up Az 62 (pm_fl (-9) (Az 62) 4)) 58 (pm_fl (nI 8) (va_up Az 62 (pm_fl (-9) (Az 62) 4) 58) 48)
set_option maxRecDepth 10000 in
set_option maxHeartbeats 4000000 in
theorem c_X10_init {g : Nat → Option pm_C} (ha : g 44 = some (.inr (10, [.int 0, .null, .long 0, .long 0, .long 0, .int 0, .null, .null, .null, .null, .null, .null, .null, .null, .null, .null, .null, .null, .long 0, .long 0, .long 0, .null, .null, .null, .int 0, .null, .null, .null, .null, .null, .int 0, .null, .null]))) : pm_C0 e_X10_init [.ref 44] ((45, g) : pm_H) (pmM ((68, g) : pm_H) mi0 ml0 A0 (fun _ _ => 0)) := by
  refine pm_enter rfl (Nat.le_of_ble_eq_true rfl) ?_
  show pm_V e_X10_init 0 [some (.ref 44), none] [] ((45, g) : pm_H) (23, 971) _
  refine r_aload_0 d_X10_init_0 ?_
  refine r_objInit d_X10_init_1 wm_735 wm_64 wm_65 (Nat.le_of_ble_eq_true rfl) (Nat.le_of_ble_eq_true rfl) ?_
  refine r_aload_0 d_X10_init_4 ?_
  refine r_push (v := nI 6) d_X10_init_5 ?_
  refine r_newa (t0 := 0) (N := 6) (x := (6, .inl (fun _ => 0))) (b' := (22, 965)) d_X10_init_7 rfl rfl wm_83 (fun _ _ => rfl) (by decide) rfl (by decide) rfl rfl (fun z => by cases z) (fun C z => by cases z) ?_
  change pm_V _ _ _ (.ref 45 :: _) _ _ _
  refine r_putF d_X10_init_9 s10_findings rfl rfl ha (Nat.le_of_ble_eq_true rfl) ⟨rfl, rfl⟩ ?_ (pm_nonest rfl)
  refine r_aload_0 d_X10_init_12 ?_
  refine r_pushl (v := lN 1) d_X10_init_13 ?_
  refine r_put d_X10_init_14 s10_lower rfl (Nat.le_of_ble_eq_true rfl) ⟨rfl, rfl⟩ ?_
  refine r_aload_0 d_X10_init_17 ?_
  refine r_push (v := nI 10) d_X10_init_18 ?_
  refine r_newa (t0 := 0) (N := 10) (x := (10, .inl (fun _ => 0))) (b' := (21, 955)) d_X10_init_20 rfl rfl wm_83 (fun _ _ => rfl) (by decide) rfl (by decide) rfl rfl (fun z => by cases z) (fun C z => by cases z) ?_
  change pm_V _ _ _ (.ref 46 :: _) _ _ _
  refine r_putF d_X10_init_22 s10_kinds rfl rfl rfl (Nat.le_of_ble_eq_true rfl) ⟨rfl, rfl⟩ ?_ (pm_nonest rfl)
  refine r_aload_0 d_X10_init_25 ?_
  refine r_push (v := nI 10) d_X10_init_26 ?_
  refine r_newa (t0 := 0) (N := 10) (x := (10, .inl (fun _ => 0))) (b' := (20, 945)) d_X10_init_28 rfl rfl wm_83 (fun _ _ => rfl) (by decide) rfl (by decide) rfl rfl (fun z => by cases z) (fun C z => by cases z) ?_
  change pm_V _ _ _ (.ref 47 :: _) _ _ _
  refine r_putF d_X10_init_30 s10_sticks rfl rfl rfl (Nat.le_of_ble_eq_true rfl) ⟨rfl, rfl⟩ ?_ (pm_nonest rfl)
  refine r_aload_0 d_X10_init_33 ?_
  refine r_push (v := nI 10) d_X10_init_34 ?_
  refine r_newa (t0 := 0) (N := 10) (x := (10, .inl (fun _ => 0))) (b' := (19, 935)) d_X10_init_36 rfl rfl wm_83 (fun _ _ => rfl) (by decide) rfl (by decide) rfl rfl (fun z => by cases z) (fun C z => by cases z) ?_
  change pm_V _ _ _ (.ref 48 :: _) _ _ _
  refine r_putF d_X10_init_38 s10_counts rfl rfl rfl (Nat.le_of_ble_eq_true rfl) ⟨rfl, rfl⟩ ?_ (pm_nonest rfl)
  refine r_aload_0 d_X10_init_41 ?_
  refine r_push (v := nI 10) d_X10_init_42 ?_
  refine r_newa (t0 := 3) (N := 10) (x := (10, .inl (fun _ => 0))) (b' := (18, 925)) d_X10_init_44 rfl rfl wm_836 (fun _ _ => rfl) (by decide) rfl (by decide) rfl rfl (fun z => by cases z) (fun C z => by cases z) ?_
  change pm_V _ _ _ (.ref 49 :: _) _ _ _
  refine r_putF d_X10_init_46 s10_hasFinger rfl rfl rfl (Nat.le_of_ble_eq_true rfl) ⟨rfl, rfl⟩ ?_ (pm_nonest rfl)
  refine r_aload_0 d_X10_init_49 ?_
  refine r_push (v := nI 10) d_X10_init_50 ?_
  refine r_newa (t0 := 0) (N := 10) (x := (10, .inl (fun _ => 0))) (b' := (17, 915)) d_X10_init_52 rfl rfl wm_83 (fun _ _ => rfl) (by decide) rfl (by decide) rfl rfl (fun z => by cases z) (fun C z => by cases z) ?_
  change pm_V _ _ _ (.ref 50 :: _) _ _ _
  refine r_putF d_X10_init_54 s10_lows rfl rfl rfl (Nat.le_of_ble_eq_true rfl) ⟨rfl, rfl⟩ ?_ (pm_nonest rfl)
  refine r_aload_0 d_X10_init_57 ?_
  refine r_push (v := nI 10) d_X10_init_58 ?_
  refine r_newa (t0 := 0) (N := 10) (x := (10, .inl (fun _ => 0))) (b' := (16, 905)) d_X10_init_60 rfl rfl wm_83 (fun _ _ => rfl) (by decide) rfl (by decide) rfl rfl (fun z => by cases z) (fun C z => by cases z) ?_
  change pm_V _ _ _ (.ref 51 :: _) _ _ _
  refine r_putF d_X10_init_62 s10_highs rfl rfl rfl (Nat.le_of_ble_eq_true rfl) ⟨rfl, rfl⟩ ?_ (pm_nonest rfl)
  refine r_aload_0 d_X10_init_65 ?_
  refine r_push (v := nI 61) d_X10_init_66 ?_
  refine r_newa (t0 := 1) (N := 61) (x := (61, .inr (.inl (fun _ => 0)))) (b' := (15, 844)) d_X10_init_68 rfl rfl wm_145 (fun _ _ => rfl) (by decide) rfl (by decide) rfl rfl (fun z => by cases z) (fun C z => by cases z) ?_
  change pm_V _ _ _ (.ref 52 :: _) _ _ _
  refine r_putF d_X10_init_70 s10_ups rfl rfl rfl (Nat.le_of_ble_eq_true rfl) ⟨rfl, rfl⟩ ?_ (pm_nonest rfl)
  refine r_aload_0 d_X10_init_73 ?_
  refine r_push (v := nI 61) d_X10_init_74 ?_
  refine r_newa (t0 := 1) (N := 61) (x := (61, .inr (.inl (fun _ => 0)))) (b' := (14, 783)) d_X10_init_76 rfl rfl wm_145 (fun _ _ => rfl) (by decide) rfl (by decide) rfl rfl (fun z => by cases z) (fun C z => by cases z) ?_
  change pm_V _ _ _ (.ref 53 :: _) _ _ _
  refine r_putF d_X10_init_78 s10_lowers rfl rfl rfl (Nat.le_of_ble_eq_true rfl) ⟨rfl, rfl⟩ ?_ (pm_nonest rfl)
  refine r_aload_0 d_X10_init_81 ?_
  refine r_push (v := nI 61) d_X10_init_82 ?_
  refine r_newa (t0 := 1) (N := 61) (x := (61, .inr (.inl (fun _ => 0)))) (b' := (13, 722)) d_X10_init_84 rfl rfl wm_145 (fun _ _ => rfl) (by decide) rfl (by decide) rfl rfl (fun z => by cases z) (fun C z => by cases z) ?_
  change pm_V _ _ _ (.ref 54 :: _) _ _ _
  refine r_putF d_X10_init_86 s10_nextUps rfl rfl rfl (Nat.le_of_ble_eq_true rfl) ⟨rfl, rfl⟩ ?_ (pm_nonest rfl)
  refine r_aload_0 d_X10_init_89 ?_
  refine r_push (v := nI 61) d_X10_init_90 ?_
  refine r_newa (t0 := 1) (N := 61) (x := (61, .inr (.inl (fun _ => 0)))) (b' := (12, 661)) d_X10_init_92 rfl rfl wm_145 (fun _ _ => rfl) (by decide) rfl (by decide) rfl rfl (fun z => by cases z) (fun C z => by cases z) ?_
  change pm_V _ _ _ (.ref 55 :: _) _ _ _
  refine r_putF d_X10_init_94 s10_nextLowers rfl rfl rfl (Nat.le_of_ble_eq_true rfl) ⟨rfl, rfl⟩ ?_ (pm_nonest rfl)
  refine r_aload_0 d_X10_init_97 ?_
  refine r_push (v := nI 31) d_X10_init_98 ?_
  refine r_newa (t0 := 1) (N := 31) (x := (31, .inr (.inl (fun _ => 0)))) (b' := (11, 630)) d_X10_init_100 rfl rfl wm_145 (fun _ _ => rfl) (by decide) rfl (by decide) rfl rfl (fun z => by cases z) (fun C z => by cases z) ?_
  change pm_V _ _ _ (.ref 56 :: _) _ _ _
  refine r_putF d_X10_init_102 s10_oddsUp rfl rfl rfl (Nat.le_of_ble_eq_true rfl) ⟨rfl, rfl⟩ ?_ (pm_nonest rfl)
  refine r_aload_0 d_X10_init_105 ?_
  refine r_push (v := nI 31) d_X10_init_106 ?_
  refine r_newa (t0 := 1) (N := 31) (x := (31, .inr (.inl (fun _ => 0)))) (b' := (10, 599)) d_X10_init_108 rfl rfl wm_145 (fun _ _ => rfl) (by decide) rfl (by decide) rfl rfl (fun z => by cases z) (fun C z => by cases z) ?_
  change pm_V _ _ _ (.ref 57 :: _) _ _ _
  refine r_putF d_X10_init_110 s10_oddsLow rfl rfl rfl (Nat.le_of_ble_eq_true rfl) ⟨rfl, rfl⟩ ?_ (pm_nonest rfl)
  refine r_aload_0 d_X10_init_113 ?_
  refine r_push (v := nI 48) d_X10_init_114 ?_
  refine r_newa (t0 := 0) (N := 48) (x := (48, .inl (fun _ => 0))) (b' := (9, 551)) d_X10_init_116 rfl rfl wm_83 (fun _ _ => rfl) (by decide) rfl (by decide) rfl rfl (fun z => by cases z) (fun C z => by cases z) ?_
  change pm_V _ _ _ (.ref 58 :: _) _ _ _
  refine r_putF d_X10_init_118 s10_figures rfl rfl rfl (Nat.le_of_ble_eq_true rfl) ⟨rfl, rfl⟩ ?_ (pm_nonest rfl)
  refine r_aload_0 d_X10_init_121 ?_
  refine r_push (v := nI 6) d_X10_init_122 ?_
  refine r_newa (t0 := 0) (N := 6) (x := (6, .inl (fun _ => 0))) (b' := (8, 545)) d_X10_init_124 rfl rfl wm_83 (fun _ _ => rfl) (by decide) rfl (by decide) rfl rfl (fun z => by cases z) (fun C z => by cases z) ?_
  change pm_V _ _ _ (.ref 59 :: _) _ _ _
  refine r_putF d_X10_init_126 s10_six rfl rfl rfl (Nat.le_of_ble_eq_true rfl) ⟨rfl, rfl⟩ ?_ (pm_nonest rfl)
  refine r_aload_0 d_X10_init_129 ?_
  refine r_push (v := nI 64) d_X10_init_130 ?_
  refine r_newa (t0 := 0) (N := 64) (x := (64, .inl (fun _ => 0))) (b' := (7, 481)) d_X10_init_132 rfl rfl wm_83 (fun _ _ => rfl) (by decide) rfl (by decide) rfl rfl (fun z => by cases z) (fun C z => by cases z) ?_
  change pm_V _ _ _ (.ref 60 :: _) _ _ _
  refine r_putF d_X10_init_134 s10_far rfl rfl rfl (Nat.le_of_ble_eq_true rfl) ⟨rfl, rfl⟩ ?_ (pm_nonest rfl)
  refine r_aload_0 d_X10_init_137 ?_
  refine r_push d_X10_init_138 ?_
  refine r_put d_X10_init_140 s10_steps rfl (Nat.le_of_ble_eq_true rfl) ⟨rfl, rfl⟩ ?_
  refine r_aload_0 d_X10_init_143 ?_
  refine r_push (v := nI 64) d_X10_init_144 ?_
  refine r_newa (t0 := 0) (N := 64) (x := (64, .inl (fun _ => 0))) (b' := (6, 417)) d_X10_init_146 rfl rfl wm_83 (fun _ _ => rfl) (by decide) rfl (by decide) rfl rfl (fun z => by cases z) (fun C z => by cases z) ?_
  change pm_V _ _ _ (.ref 61 :: _) _ _ _
  refine r_putF d_X10_init_148 s10_stepRow rfl rfl rfl (Nat.le_of_ble_eq_true rfl) ⟨rfl, rfl⟩ ?_ (pm_nonest rfl)
  refine r_aload_0 d_X10_init_151 ?_
  refine r_push (v := nI 4) d_X10_init_152 ?_
  refine r_newa (t0 := 0) (N := 4) (x := (4, .inl (fun _ => 0))) (b' := (5, 413)) d_X10_init_153 rfl rfl wm_83 (fun _ _ => rfl) (by decide) rfl (by decide) rfl rfl (fun z => by cases z) (fun C z => by cases z) ?_
  change pm_V _ _ _ (.ref 62 :: _) _ _ _
  refine r_putF d_X10_init_155 s10_sizes rfl rfl rfl (Nat.le_of_ble_eq_true rfl) ⟨rfl, rfl⟩ ?_ (pm_nonest rfl)
  refine r_aload_0 d_X10_init_158 ?_
  refine r_push (v := nI 256) d_X10_init_159 ?_
  refine r_newa (t0 := 0) (N := 256) (x := (256, .inl (fun _ => 0))) (b' := (4, 157)) d_X10_init_162 rfl rfl wm_83 (fun _ _ => rfl) (by decide) rfl (by decide) rfl rfl (fun z => by cases z) (fun C z => by cases z) ?_
  change pm_V _ _ _ (.ref 63 :: _) _ _ _
  refine r_putF d_X10_init_164 s10_rows rfl rfl rfl (Nat.le_of_ble_eq_true rfl) ⟨rfl, rfl⟩ ?_ (pm_nonest rfl)
  refine r_aload_0 d_X10_init_167 ?_
  refine r_push (v := nI 64) d_X10_init_168 ?_
  refine r_newa (t0 := 0) (N := 64) (x := (64, .inl (fun _ => 0))) (b' := (3, 93)) d_X10_init_170 rfl rfl wm_83 (fun _ _ => rfl) (by decide) rfl (by decide) rfl rfl (fun z => by cases z) (fun C z => by cases z) ?_
  change pm_V _ _ _ (.ref 64 :: _) _ _ _
  refine r_putF d_X10_init_172 s10_moving rfl rfl rfl (Nat.le_of_ble_eq_true rfl) ⟨rfl, rfl⟩ ?_ (pm_nonest rfl)
  refine r_aload_0 d_X10_init_175 ?_
  refine r_push (v := nI 31) d_X10_init_176 ?_
  refine r_newa (t0 := 0) (N := 31) (x := (31, .inl (fun _ => 0))) (b' := (2, 62)) d_X10_init_178 rfl rfl wm_83 (fun _ _ => rfl) (by decide) rfl (by decide) rfl rfl (fun z => by cases z) (fun C z => by cases z) ?_
  change pm_V _ _ _ (.ref 65 :: _) _ _ _
  refine r_putF d_X10_init_180 s10_times rfl rfl rfl (Nat.le_of_ble_eq_true rfl) ⟨rfl, rfl⟩ ?_ (pm_nonest rfl)
  refine r_aload_0 d_X10_init_183 ?_
  refine r_push (v := nI 31) d_X10_init_184 ?_
  refine r_newa (t0 := 0) (N := 31) (x := (31, .inl (fun _ => 0))) (b' := (1, 31)) d_X10_init_186 rfl rfl wm_83 (fun _ _ => rfl) (by decide) rfl (by decide) rfl rfl (fun z => by cases z) (fun C z => by cases z) ?_
  change pm_V _ _ _ (.ref 66 :: _) _ _ _
  refine r_putF d_X10_init_188 s10_shares rfl rfl rfl (Nat.le_of_ble_eq_true rfl) ⟨rfl, rfl⟩ ?_ (pm_nonest rfl)
  refine r_aload_0 d_X10_init_191 ?_
  refine r_push (v := nI 31) d_X10_init_192 ?_
  refine r_newa (t0 := 0) (N := 31) (x := (31, .inl (fun _ => 0))) (b' := (0, 0)) d_X10_init_194 rfl rfl wm_83 (fun _ _ => rfl) (by decide) rfl (by decide) rfl rfl (fun z => by cases z) (fun C z => by cases z) ?_
  change pm_V _ _ _ (.ref 67 :: _) _ _ _
  refine r_putF d_X10_init_196 s10_held rfl rfl rfl (Nat.le_of_ble_eq_true rfl) ⟨rfl, rfl⟩ ?_ (pm_nonest rfl)
  refine r_push (v := nI 0) d_X10_init_199 ?_
  refine r_istore_1 d_X10_init_200 (Nat.le_of_ble_eq_true rfl) (fun w hw => by cases hw <;> rfl) ?_
  have e9 : ∀ (H : pm_H), H = pmM ((68, g) : pm_H) mi0 ml0 Az (fun _ _ => 0) → pm_V e_X10_init 201 [some (.ref 44), some (.int (nI 0))] [] H (0, 0) (fun v9 h1 => v9 = none ∧ h1 = (pmM ((68, g) : pm_H) mi0 ml0 A0 (fun _ _ => 0))) := fun H eH => by
    rw [eH]
    have eA : pmM ((68, g) : pm_H) mi0 ml0 Az (fun _ _ => 0) = pmM ((68, g) : pm_H) mi0 ml0 (va_up Az 62 (pm_fl (-9) (Az 62) 0)) (fun _ _ => 0) := by rw [show pm_fl (-9) (Az 62) 0 = Az 62 from (by funext j; simp [pm_fl]), m_aus]
    rw [eA]
    refine lp_X10_init ?_ 4 0 (by omega)
    refine r_push (v := nI 0) d_X10_init_220 ?_
    refine r_istore_1 d_X10_init_221 (Nat.le_of_ble_eq_true rfl) (fun w hw => by cases hw <;> rfl) ?_
    have eB : pmM ((68, g) : pm_H) mi0 ml0 (va_up Az 62 (pm_fl (-9) (Az 62) 4)) (fun _ _ => 0) = pmM ((68, g) : pm_H) mi0 ml0 (va_up (va_up Az 62 (pm_fl (-9) (Az 62) 4)) 58 (pm_fl (nI 8) (va_up Az 62 (pm_fl (-9) (Az 62) 4) 58) 0)) (fun _ _ => 0) := by rw [show pm_fl (nI 8) (va_up Az 62 (pm_fl (-9) (Az 62) 4) 58) 0 = va_up Az 62 (pm_fl (-9) (Az 62) 4) 58 from (by funext j; simp [pm_fl]), m_aus]
    rw [eB]
    refine lq_X10_init ?_ 48 0 (by omega)
    exact r_return d_X10_init_242 rfl ⟨rfl, rfl⟩
  refine e9 _ (Prod.ext rfl (funext fun q => ?_))
  by_cases hq : 44 ≤ q ∧ q ≤ 67
  · rcases (show q = 44 ∨ q = 45 ∨ q = 46 ∨ q = 47 ∨ q = 48 ∨ q = 49 ∨ q = 50 ∨ q = 51 ∨ q = 52 ∨ q = 53 ∨ q = 54 ∨ q = 55 ∨ q = 56 ∨ q = 57 ∨ q = 58 ∨ q = 59 ∨ q = 60 ∨ q = 61 ∨ q = 62 ∨ q = 63 ∨ q = 64 ∨ q = 65 ∨ q = 66 ∨ q = 67 by omega) with rfl | rfl | rfl | rfl | rfl | rfl | rfl | rfl | rfl | rfl | rfl | rfl | rfl | rfl | rfl | rfl | rfl | rfl | rfl | rfl | rfl | rfl | rfl | rfl <;> rfl
  · refine Eq.trans ?_ (show g q = (if q = 44 then _ else if 45 ≤ q ∧ q ≤ 67 then _ else g q) from (by rw [if_neg (by omega), if_neg (by omega)]))
    repeat (first | refine pm_ne (fun e => hq (by rw [e]; exact ⟨Nat.le_of_ble_eq_true rfl, Nat.le_of_ble_eq_true rfl⟩)) ?_ | refine pm_nwne (fun e => hq (by rw [e]; exact ⟨Nat.le_of_ble_eq_true rfl, Nat.le_of_ble_eq_true rfl⟩)) ?_)
    rfl
