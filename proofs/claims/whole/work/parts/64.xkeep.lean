def pm_fn (w : Cond) : Bool := match w with
  | .fieldLinkNest c _ d _ _ _ => decide (c ≠ d)
  | _ => true
set_option maxRecDepth 100000 in
theorem pm_fnest : ∀ w ∈ pm_tbl, pm_fn w = true := by decide +kernel
theorem pm_nonest {c d n t : String} (h : d = c) : ∀ idx host, Cond.fieldLinkNest c idx d n t host ∉ pm_tbl := fun idx host hm => by
  have h1 := pm_fnest _ hm
  have h2 : c ≠ d := of_decide_eq_true h1
  exact h2 h.symm
set_option maxRecDepth 10000 in
set_option maxHeartbeats 4000000 in
theorem c_X1_init {h : pm_H} {a : Nat} : pm_C0 e_X1_init [.ref a] h h := by
  refine pm_enter rfl (Nat.le_of_ble_eq_true rfl) ?_
  show pm_V e_X1_init 0 [some (.ref a)] [] h (0, 0) _
  refine r_aload_0 d_X1_init_0 ?_
  refine r_objInit d_X1_init_1 wm_219 wm_64 wm_65 (Nat.le_of_ble_eq_true rfl) (Nat.le_of_ble_eq_true rfl) ?_
  refine r_return d_X1_init_4 rfl ?_
  exact ⟨rfl, rfl⟩
set_option maxRecDepth 10000 in
set_option maxHeartbeats 4000000 in
theorem c_X2_init {h : pm_H} {a : Nat} : pm_C0 e_X2_init [.ref a] h h := by
  refine pm_enter rfl (Nat.le_of_ble_eq_true rfl) ?_
  show pm_V e_X2_init 0 [some (.ref a)] [] h (0, 0) _
  refine r_aload_0 d_X2_init_0 ?_
  refine r_I0v (b' := (0, 0)) d_X2_init_1 c_X1_init rfl rfl (Nat.le_of_ble_eq_true rfl) ?_
  refine r_return d_X2_init_4 rfl ?_
  exact ⟨rfl, rfl⟩
set_option maxRecDepth 10000 in
set_option maxHeartbeats 4000000 in
theorem c_X6_init6 {h : pm_H} {a n k f : Nat} {x y z u v : Int32} (hf : f ≤ 1) (ht : h.2 a = some (.inr (6, [.int x, .int y, .int z]))) : pm_C0 e_X6_init [.ref a, .int (nI n), .int (nI k), .int (nI f)] h (pm_up h a (.inr (6, [.int (nI n), .int (nI k), .int (nI f)]))) := by
  refine pm_enter rfl (Nat.le_of_ble_eq_true rfl) ?_
  show pm_V e_X6_init 0 [some (.ref a), some (.int (nI n)), some (.int (nI k)), some (.int (nI f))] [] h (0, 0) _
  refine r_aload_0 d_X6_init_0 ?_
  refine r_I0v (b' := (0, 0)) d_X6_init_1 c_X1_init rfl rfl (Nat.le_of_ble_eq_true rfl) ?_
  refine r_aload_0 d_X6_init_4 ?_
  refine r_iload_1 d_X6_init_5 ?_
  refine r_putF d_X6_init_6 s6_bundle rfl rfl ht (Nat.le_of_ble_eq_true rfl) ⟨rfl, rfl⟩ ?_ (pm_nonest rfl)
  refine r_aload_0 d_X6_init_9 ?_
  refine r_iload_2 d_X6_init_10 ?_
  refine r_putF d_X6_init_11 s6_by rfl rfl pm_same (Nat.le_of_ble_eq_true rfl) ⟨rfl, rfl⟩ ?_ (pm_nonest rfl)
  rw [pm_up_up]
  refine r_aload_0 d_X6_init_14 ?_
  refine r_iload_3 d_X6_init_15 ?_
  refine r_if_eq d_X6_init_16 (fun c16 => ?_) (fun c16 => ?_)
  · -- taken at 16
    have c16 : f = 0 := (nI_eq (a := f) (b := 0) (by omega) (by omega)).mp c16
    refine r_push (v := nI 0) d_X6_init_23 ?_
    refine r_putF d_X6_init_24 s6_fingers rfl rfl pm_same (Nat.le_of_ble_eq_true rfl) ⟨rfl, rfl⟩ ?_ (pm_nonest rfl)
    rw [pm_up_up]
    refine r_return d_X6_init_27 rfl ?_
    rcases (show f = 0 ∨ f = 1 by omega) with rfl | rfl <;> first | (exfalso; omega) | exact ⟨rfl, rfl⟩
  · -- not taken at 16
    have c16 : ¬ f = 0 := fun zz9 => c16 ((nI_eq (a := f) (b := 0) (by omega) (by omega)).mpr zz9)
    refine r_push (v := nI 1) d_X6_init_19 ?_
    refine r_goto d_X6_init_20 ?_
    refine r_putF d_X6_init_24 s6_fingers rfl rfl pm_same (Nat.le_of_ble_eq_true rfl) ⟨rfl, rfl⟩ ?_ (pm_nonest rfl)
    rw [pm_up_up]
    refine r_return d_X6_init_27 rfl ?_
    rcases (show f = 0 ∨ f = 1 by omega) with rfl | rfl <;> first | (exfalso; omega) | exact ⟨rfl, rfl⟩
set_option maxRecDepth 10000 in
set_option maxHeartbeats 4000000 in
theorem c_X6_init7 {h : pm_H} {a n k f : Nat} {x y z u v : Int32} (hf : f ≤ 1) (ht : h.2 a = some (.inr (7, [.int x, .int y, .int z, .int u, .int v]))) : pm_C0 e_X6_init [.ref a, .int (nI n), .int (nI k), .int (nI f)] h (pm_up h a (.inr (7, [.int (nI n), .int (nI k), .int (nI f), .int u, .int v]))) := by
  refine pm_enter rfl (Nat.le_of_ble_eq_true rfl) ?_
  show pm_V e_X6_init 0 [some (.ref a), some (.int (nI n)), some (.int (nI k)), some (.int (nI f))] [] h (0, 0) _
  refine r_aload_0 d_X6_init_0 ?_
  refine r_I0v (b' := (0, 0)) d_X6_init_1 c_X1_init rfl rfl (Nat.le_of_ble_eq_true rfl) ?_
  refine r_aload_0 d_X6_init_4 ?_
  refine r_iload_1 d_X6_init_5 ?_
  refine r_putF d_X6_init_6 s7_bundle rfl rfl ht (Nat.le_of_ble_eq_true rfl) ⟨rfl, rfl⟩ ?_ (pm_nonest rfl)
  refine r_aload_0 d_X6_init_9 ?_
  refine r_iload_2 d_X6_init_10 ?_
  refine r_putF d_X6_init_11 s7_by rfl rfl pm_same (Nat.le_of_ble_eq_true rfl) ⟨rfl, rfl⟩ ?_ (pm_nonest rfl)
  rw [pm_up_up]
  refine r_aload_0 d_X6_init_14 ?_
  refine r_iload_3 d_X6_init_15 ?_
  refine r_if_eq d_X6_init_16 (fun c16 => ?_) (fun c16 => ?_)
  · -- taken at 16
    have c16 : f = 0 := (nI_eq (a := f) (b := 0) (by omega) (by omega)).mp c16
    refine r_push (v := nI 0) d_X6_init_23 ?_
    refine r_putF d_X6_init_24 s7_fingers rfl rfl pm_same (Nat.le_of_ble_eq_true rfl) ⟨rfl, rfl⟩ ?_ (pm_nonest rfl)
    rw [pm_up_up]
    refine r_return d_X6_init_27 rfl ?_
    rcases (show f = 0 ∨ f = 1 by omega) with rfl | rfl <;> first | (exfalso; omega) | exact ⟨rfl, rfl⟩
  · -- not taken at 16
    have c16 : ¬ f = 0 := fun zz9 => c16 ((nI_eq (a := f) (b := 0) (by omega) (by omega)).mpr zz9)
    refine r_push (v := nI 1) d_X6_init_19 ?_
    refine r_goto d_X6_init_20 ?_
    refine r_putF d_X6_init_24 s7_fingers rfl rfl pm_same (Nat.le_of_ble_eq_true rfl) ⟨rfl, rfl⟩ ?_ (pm_nonest rfl)
    rw [pm_up_up]
    refine r_return d_X6_init_27 rfl ?_
    rcases (show f = 0 ∨ f = 1 by omega) with rfl | rfl <;> first | (exfalso; omega) | exact ⟨rfl, rfl⟩
set_option maxRecDepth 10000 in
set_option maxHeartbeats 4000000 in
theorem c_X7_init {h : pm_H} {a n k f lo hi : Nat} {x y z u v : Int32} (hf : f ≤ 1) (ht : h.2 a = some (.inr (7, [.int x, .int y, .int z, .int u, .int v]))) : pm_C0 e_X7_init [.ref a, .int (nI n), .int (nI k), .int (nI f), .int (nI lo), .int (nI hi)] h (pm_up h a (.inr (7, [.int (nI n), .int (nI k), .int (nI f), .int (nI lo), .int (nI hi)]))) := by
  refine pm_enter rfl (Nat.le_of_ble_eq_true rfl) ?_
  show pm_V e_X7_init 0 [some (.ref a), some (.int (nI n)), some (.int (nI k)), some (.int (nI f)), some (.int (nI lo)), some (.int (nI hi))] [] h (0, 0) _
  refine r_aload_0 d_X7_init_0 ?_
  refine r_iload_1 d_X7_init_1 ?_
  refine r_iload_2 d_X7_init_2 ?_
  refine r_iload_3 d_X7_init_3 ?_
  refine r_I3v (b' := (0, 0)) d_X7_init_4 (c_X6_init7 hf ht) rfl rfl (Nat.le_of_ble_eq_true rfl) ?_
  refine r_aload_0 d_X7_init_7 ?_
  refine r_iload_4 d_X7_init_8 ?_
  refine r_putF d_X7_init_10 s7_lo rfl rfl pm_same (Nat.le_of_ble_eq_true rfl) ⟨rfl, rfl⟩ ?_ (pm_nonest rfl)
  rw [pm_up_up]
  refine r_aload_0 d_X7_init_13 ?_
  refine r_iload_5 d_X7_init_14 ?_
  refine r_putF d_X7_init_16 s7_hi rfl rfl pm_same (Nat.le_of_ble_eq_true rfl) ⟨rfl, rfl⟩ ?_ (pm_nonest rfl)
  rw [pm_up_up]
  refine r_return d_X7_init_19 rfl ?_
  exact ⟨rfl, rfl⟩
set_option maxRecDepth 10000 in
set_option maxHeartbeats 4000000 in
theorem c_X9_keep1 {h : pm_H} {xi : Nat → Int32} {xl : Nat → Int64} {xc : Nat → Option Nat} {XA : Nat → Nat → Int32} {XB : Nat → Nat → Int64} {a cn : Nat} {fs : List Value} (hcn : xi 0 = nI cn) (hn : cn < 10) (hv : (pmX h xi xl xc XA XB).2 a = some (.inr (1, fs))) : pm_Cv e_X9_keep [.ref 1, .ref a] (pmX h xi xl xc XA XB) (.int (nI cn)) (pmX h (upd xi 0 (nI (cn + 1))) xl (va_up xc cn (some a)) XA XB) := by
  refine pm_enter rfl (Nat.le_of_ble_eq_true rfl) ?_
  show pm_V e_X9_keep 0 [some (.ref 1), some (.ref a), none] [] (pmX h xi xl xc XA XB) (0, 0) _
  refine r_aload_0 d_X9_keep_0 ?_
  refine r_get d_X9_keep_1 s9_casterCount rfl rfl ?_
  rw [hcn]
  refine r_istore_2 d_X9_keep_4 (Nat.le_of_ble_eq_true rfl) (fun w hw => by cases hw <;> rfl) ?_
  refine r_aload_0 d_X9_keep_5 ?_
  refine r_get d_X9_keep_6 s9_casters rfl rfl ?_
  refine r_iload_2 d_X9_keep_9 ?_
  refine r_aload_1 d_X9_keep_10 ?_
  refine r_aastRX1 d_X9_keep_11 rfl hv rfl (Or.inl rfl) (pm_ixN (by omega) (by omega)) ?_
  rw [pmX_2]
  refine r_aload_0 d_X9_keep_12 ?_
  refine r_iload_2 d_X9_keep_13 ?_
  refine r_push (v := nI 1) d_X9_keep_14 ?_
  refine r_iadd d_X9_keep_15 ?_
  rw [nI_add]
  refine r_put d_X9_keep_16 s9_casterCount rfl (Nat.le_of_ble_eq_true rfl) ⟨rfl, rfl⟩ ?_
  rw [pmX_casterCount]
  refine r_iload_2 d_X9_keep_19 ?_
  refine r_ireturn d_X9_keep_20 ⟨_, rfl, rfl⟩ ?_
  exact ⟨rfl, rfl⟩
set_option maxRecDepth 10000 in
set_option maxHeartbeats 4000000 in
theorem c_X9_keep2 {h : pm_H} {xi : Nat → Int32} {xl : Nat → Int64} {xc : Nat → Option Nat} {XA : Nat → Nat → Int32} {XB : Nat → Nat → Int64} {a cn : Nat} {fs : List Value} (hcn : xi 0 = nI cn) (hn : cn < 10) (hv : (pmX h xi xl xc XA XB).2 a = some (.inr (2, fs))) : pm_Cv e_X9_keep [.ref 1, .ref a] (pmX h xi xl xc XA XB) (.int (nI cn)) (pmX h (upd xi 0 (nI (cn + 1))) xl (va_up xc cn (some a)) XA XB) := by
  refine pm_enter rfl (Nat.le_of_ble_eq_true rfl) ?_
  show pm_V e_X9_keep 0 [some (.ref 1), some (.ref a), none] [] (pmX h xi xl xc XA XB) (0, 0) _
  refine r_aload_0 d_X9_keep_0 ?_
  refine r_get d_X9_keep_1 s9_casterCount rfl rfl ?_
  rw [hcn]
  refine r_istore_2 d_X9_keep_4 (Nat.le_of_ble_eq_true rfl) (fun w hw => by cases hw <;> rfl) ?_
  refine r_aload_0 d_X9_keep_5 ?_
  refine r_get d_X9_keep_6 s9_casters rfl rfl ?_
  refine r_iload_2 d_X9_keep_9 ?_
  refine r_aload_1 d_X9_keep_10 ?_
  refine r_aastRX1 d_X9_keep_11 rfl hv rfl (Or.inr wm_1120) (pm_ixN (by omega) (by omega)) ?_
  rw [pmX_2]
  refine r_aload_0 d_X9_keep_12 ?_
  refine r_iload_2 d_X9_keep_13 ?_
  refine r_push (v := nI 1) d_X9_keep_14 ?_
  refine r_iadd d_X9_keep_15 ?_
  rw [nI_add]
  refine r_put d_X9_keep_16 s9_casterCount rfl (Nat.le_of_ble_eq_true rfl) ⟨rfl, rfl⟩ ?_
  rw [pmX_casterCount]
  refine r_iload_2 d_X9_keep_19 ?_
  refine r_ireturn d_X9_keep_20 ⟨_, rfl, rfl⟩ ?_
  exact ⟨rfl, rfl⟩
set_option maxRecDepth 10000 in
set_option maxHeartbeats 4000000 in
theorem c_X9_keep6 {h : pm_H} {xi : Nat → Int32} {xl : Nat → Int64} {xc : Nat → Option Nat} {XA : Nat → Nat → Int32} {XB : Nat → Nat → Int64} {a cn : Nat} {fs : List Value} (hcn : xi 0 = nI cn) (hn : cn < 10) (hv : (pmX h xi xl xc XA XB).2 a = some (.inr (6, fs))) : pm_Cv e_X9_keep [.ref 1, .ref a] (pmX h xi xl xc XA XB) (.int (nI cn)) (pmX h (upd xi 0 (nI (cn + 1))) xl (va_up xc cn (some a)) XA XB) := by
  refine pm_enter rfl (Nat.le_of_ble_eq_true rfl) ?_
  show pm_V e_X9_keep 0 [some (.ref 1), some (.ref a), none] [] (pmX h xi xl xc XA XB) (0, 0) _
  refine r_aload_0 d_X9_keep_0 ?_
  refine r_get d_X9_keep_1 s9_casterCount rfl rfl ?_
  rw [hcn]
  refine r_istore_2 d_X9_keep_4 (Nat.le_of_ble_eq_true rfl) (fun w hw => by cases hw <;> rfl) ?_
  refine r_aload_0 d_X9_keep_5 ?_
  refine r_get d_X9_keep_6 s9_casters rfl rfl ?_
  refine r_iload_2 d_X9_keep_9 ?_
  refine r_aload_1 d_X9_keep_10 ?_
  refine r_aastRX1 d_X9_keep_11 rfl hv rfl (Or.inr wm_1121) (pm_ixN (by omega) (by omega)) ?_
  rw [pmX_2]
  refine r_aload_0 d_X9_keep_12 ?_
  refine r_iload_2 d_X9_keep_13 ?_
  refine r_push (v := nI 1) d_X9_keep_14 ?_
  refine r_iadd d_X9_keep_15 ?_
  rw [nI_add]
  refine r_put d_X9_keep_16 s9_casterCount rfl (Nat.le_of_ble_eq_true rfl) ⟨rfl, rfl⟩ ?_
  rw [pmX_casterCount]
  refine r_iload_2 d_X9_keep_19 ?_
  refine r_ireturn d_X9_keep_20 ⟨_, rfl, rfl⟩ ?_
  exact ⟨rfl, rfl⟩
set_option maxRecDepth 10000 in
set_option maxHeartbeats 4000000 in
theorem c_X9_keep7 {h : pm_H} {xi : Nat → Int32} {xl : Nat → Int64} {xc : Nat → Option Nat} {XA : Nat → Nat → Int32} {XB : Nat → Nat → Int64} {a cn : Nat} {fs : List Value} (hcn : xi 0 = nI cn) (hn : cn < 10) (hv : (pmX h xi xl xc XA XB).2 a = some (.inr (7, fs))) : pm_Cv e_X9_keep [.ref 1, .ref a] (pmX h xi xl xc XA XB) (.int (nI cn)) (pmX h (upd xi 0 (nI (cn + 1))) xl (va_up xc cn (some a)) XA XB) := by
  refine pm_enter rfl (Nat.le_of_ble_eq_true rfl) ?_
  show pm_V e_X9_keep 0 [some (.ref 1), some (.ref a), none] [] (pmX h xi xl xc XA XB) (0, 0) _
  refine r_aload_0 d_X9_keep_0 ?_
  refine r_get d_X9_keep_1 s9_casterCount rfl rfl ?_
  rw [hcn]
  refine r_istore_2 d_X9_keep_4 (Nat.le_of_ble_eq_true rfl) (fun w hw => by cases hw <;> rfl) ?_
  refine r_aload_0 d_X9_keep_5 ?_
  refine r_get d_X9_keep_6 s9_casters rfl rfl ?_
  refine r_iload_2 d_X9_keep_9 ?_
  refine r_aload_1 d_X9_keep_10 ?_
  refine r_aastRX1 d_X9_keep_11 rfl hv rfl (Or.inr wm_1122) (pm_ixN (by omega) (by omega)) ?_
  rw [pmX_2]
  refine r_aload_0 d_X9_keep_12 ?_
  refine r_iload_2 d_X9_keep_13 ?_
  refine r_push (v := nI 1) d_X9_keep_14 ?_
  refine r_iadd d_X9_keep_15 ?_
  rw [nI_add]
  refine r_put d_X9_keep_16 s9_casterCount rfl (Nat.le_of_ble_eq_true rfl) ⟨rfl, rfl⟩ ?_
  rw [pmX_casterCount]
  refine r_iload_2 d_X9_keep_19 ?_
  refine r_ireturn d_X9_keep_20 ⟨_, rfl, rfl⟩ ?_
  exact ⟨rfl, rfl⟩
set_option maxRecDepth 10000 in
set_option maxHeartbeats 4000000 in
theorem c_X9_caster_full0 {h : pm_H} {xi : Nat → Int32} {xl : Nat → Int64} {xc : Nat → Option Nat} {XA : Nat → Nat → Int32} {XB : Nat → Nat → Int64} (hf : xi 0 = nI 10) : pm_Cv e_X9_caster [.ref 1, .int (nI 0)] (pmX h xi xl xc XA XB) (.int (-2)) (pmX h xi xl xc XA XB) := by
  refine pm_enter rfl (Nat.le_of_ble_eq_true rfl) ?_
  show pm_V e_X9_caster 0 [some (.ref 1), some (.int (nI 0))] [] (pmX h xi xl xc XA XB) (1, 0) _
  refine r_aload_0 d_X9_caster_0 ?_
  refine r_get d_X9_caster_1 s9_casterCount rfl rfl ?_
  rw [hf]
  refine r_push (v := nI 10) d_X9_caster_4 ?_
  refine r_icmp_lt d_X9_caster_6 (fun c6 => absurd c6 (by decide)) (fun c6 => ?_)
  clear c6
  refine r_push d_X9_caster_9 ?_
  refine r_ireturn d_X9_caster_11 ⟨_, rfl, rfl⟩ ?_
  exact ⟨rfl, rfl⟩
set_option maxRecDepth 10000 in
set_option maxHeartbeats 4000000 in
theorem c_X9_caster0 {h : pm_H} {xi : Nat → Int32} {xl : Nat → Int64} {xc : Nat → Option Nat} {XA : Nat → Nat → Int32} {XB : Nat → Nat → Int64} {cn : Nat} (hcn : xi 0 = nI cn) (hn : cn < 10) (hh : h.1 = 68 + cn) : pm_Cv e_X9_caster [.ref 1, .int (nI 0)] (pmX h xi xl xc XA XB) (.int (nI cn)) (pmX (pm_nw h (.inr (1, []))) (upd xi 0 (nI (cn + 1))) xl (va_up xc cn (some (68 + cn))) XA XB) := by
  have hv : (pmX (pm_nw h (.inr (1, []))) xi xl xc XA XB).2 (68 + cn) = some (.inr (1, [])) := by
    rw [pmX_ne (by omega), ← hh]; exact if_pos rfl
  refine pm_enter rfl (Nat.le_of_ble_eq_true rfl) ?_
  show pm_V e_X9_caster 0 [some (.ref 1), some (.int (nI 0))] [] (pmX h xi xl xc XA XB) (1, 0) _
  refine r_aload_0 d_X9_caster_0 ?_
  refine r_get d_X9_caster_1 s9_casterCount rfl rfl ?_
  rw [hcn]
  refine r_push (v := nI 10) d_X9_caster_4 ?_
  refine r_icmp_lt d_X9_caster_6 (fun c6 => ?_) (fun c6 => ?_)
  · -- taken at 6
    have c6 : cn < 10 := (nI_ltI (a := cn) (b := 10) (by omega) (by omega)).mp c6
    refine r_aload_0 d_X9_caster_12 ?_
    refine r_iload_1 d_X9_caster_13 ?_
    refine r_if_eq d_X9_caster_14 (fun c14 => ?_) (fun c14 => absurd (by decide) c14)
    clear c14
    refine r_new (b' := (0, 0)) d_X9_caster_27 rfl rfl ?_
    rw [show (pmX h xi xl xc XA XB).1 = 68 + cn from hh, pmX_nw (by omega)]
    refine r_dup d_X9_caster_30 rfl ?_
    refine r_I0v (b' := (0, 0)) d_X9_caster_31 c_X1_init rfl rfl (Nat.le_of_ble_eq_true rfl) ?_
    refine r_V1 d_X9_caster_34 (c_X9_keep1 hcn hn hv) rfl rfl rfl ⟨rfl, rfl⟩ (Nat.le_of_ble_eq_true rfl) ?_
    refine r_ireturn d_X9_caster_37 ⟨_, rfl, rfl⟩ ?_
    exact ⟨rfl, rfl⟩
  · -- not taken at 6
    have c6 : ¬ cn < 10 := fun zz9 => c6 ((nI_ltI (a := cn) (b := 10) (by omega) (by omega)).mpr zz9)
    exfalso; omega
set_option maxRecDepth 10000 in
set_option maxHeartbeats 4000000 in
theorem c_X9_caster_full1 {h : pm_H} {xi : Nat → Int32} {xl : Nat → Int64} {xc : Nat → Option Nat} {XA : Nat → Nat → Int32} {XB : Nat → Nat → Int64} (hf : xi 0 = nI 10) : pm_Cv e_X9_caster [.ref 1, .int (nI 1)] (pmX h xi xl xc XA XB) (.int (-2)) (pmX h xi xl xc XA XB) := by
  refine pm_enter rfl (Nat.le_of_ble_eq_true rfl) ?_
  show pm_V e_X9_caster 0 [some (.ref 1), some (.int (nI 1))] [] (pmX h xi xl xc XA XB) (1, 0) _
  refine r_aload_0 d_X9_caster_0 ?_
  refine r_get d_X9_caster_1 s9_casterCount rfl rfl ?_
  rw [hf]
  refine r_push (v := nI 10) d_X9_caster_4 ?_
  refine r_icmp_lt d_X9_caster_6 (fun c6 => absurd c6 (by decide)) (fun c6 => ?_)
  clear c6
  refine r_push d_X9_caster_9 ?_
  refine r_ireturn d_X9_caster_11 ⟨_, rfl, rfl⟩ ?_
  exact ⟨rfl, rfl⟩
set_option maxRecDepth 10000 in
set_option maxHeartbeats 4000000 in
theorem c_X9_caster1 {h : pm_H} {xi : Nat → Int32} {xl : Nat → Int64} {xc : Nat → Option Nat} {XA : Nat → Nat → Int32} {XB : Nat → Nat → Int64} {cn : Nat} (hcn : xi 0 = nI cn) (hn : cn < 10) (hh : h.1 = 68 + cn) : pm_Cv e_X9_caster [.ref 1, .int (nI 1)] (pmX h xi xl xc XA XB) (.int (nI cn)) (pmX (pm_nw h (.inr (2, []))) (upd xi 0 (nI (cn + 1))) xl (va_up xc cn (some (68 + cn))) XA XB) := by
  have hv : (pmX (pm_nw h (.inr (2, []))) xi xl xc XA XB).2 (68 + cn) = some (.inr (2, [])) := by
    rw [pmX_ne (by omega), ← hh]; exact if_pos rfl
  refine pm_enter rfl (Nat.le_of_ble_eq_true rfl) ?_
  show pm_V e_X9_caster 0 [some (.ref 1), some (.int (nI 1))] [] (pmX h xi xl xc XA XB) (1, 0) _
  refine r_aload_0 d_X9_caster_0 ?_
  refine r_get d_X9_caster_1 s9_casterCount rfl rfl ?_
  rw [hcn]
  refine r_push (v := nI 10) d_X9_caster_4 ?_
  refine r_icmp_lt d_X9_caster_6 (fun c6 => ?_) (fun c6 => ?_)
  · -- taken at 6
    have c6 : cn < 10 := (nI_ltI (a := cn) (b := 10) (by omega) (by omega)).mp c6
    refine r_aload_0 d_X9_caster_12 ?_
    refine r_iload_1 d_X9_caster_13 ?_
    refine r_if_eq d_X9_caster_14 (fun c14 => absurd c14 (by decide)) (fun c14 => ?_)
    clear c14
    refine r_new (b' := (0, 0)) d_X9_caster_17 rfl rfl ?_
    rw [show (pmX h xi xl xc XA XB).1 = 68 + cn from hh, pmX_nw (by omega)]
    refine r_dup d_X9_caster_20 rfl ?_
    refine r_I0v (b' := (0, 0)) d_X9_caster_21 c_X2_init rfl rfl (Nat.le_of_ble_eq_true rfl) ?_
    refine r_goto d_X9_caster_24 ?_
    refine r_V1 d_X9_caster_34 (c_X9_keep2 hcn hn hv) rfl rfl rfl ⟨rfl, rfl⟩ (Nat.le_of_ble_eq_true rfl) ?_
    refine r_ireturn d_X9_caster_37 ⟨_, rfl, rfl⟩ ?_
    exact ⟨rfl, rfl⟩
  · -- not taken at 6
    have c6 : ¬ cn < 10 := fun zz9 => c6 ((nI_ltI (a := cn) (b := 10) (by omega) (by omega)).mpr zz9)
    exfalso; omega
set_option maxRecDepth 10000 in
set_option maxHeartbeats 4000000 in
theorem c_X9_stalks_bad {h : pm_H} {xi : Nat → Int32} {xl : Nat → Int64} {xc : Nat → Option Nat} {XA : Nat → Nat → Int32} {XB : Nat → Nat → Int64} {n k fg : Int32} (hv : ¬ (4 ≤ n ∧ n ≤ 60 ∧ 2 ≤ k ∧ k ≤ 8)) : pm_Cv e_X9_stalks [.ref 1, .int n, .int k, .int fg] (pmX h xi xl xc XA XB) (.int (-1)) (pmX h xi xl xc XA XB) := by
  refine pm_enter rfl (Nat.le_of_ble_eq_true rfl) ?_
  show pm_V e_X9_stalks 0 [some (.ref 1), some (.int n), some (.int k), some (.int fg)] [] (pmX h xi xl xc XA XB) (1, 3) _
  refine r_iload_1 d_X9_stalks_0 ?_
  refine r_iload_2 d_X9_stalks_1 ?_
  refine r_S2 d_X9_stalks_2 c_X9_isBundle ⟨rfl, rfl⟩ (Nat.le_of_ble_eq_true rfl) ?_
  rw [if_neg hv]
  change pm_V _ _ _ (.int (nI 0) :: _) _ _ _
  refine r_if_ne d_X9_stalks_5 (fun c5 => absurd (by decide) c5) (fun c5 => ?_)
  clear c5
  refine r_push d_X9_stalks_8 ?_
  refine r_ireturn d_X9_stalks_9 ⟨_, rfl, rfl⟩ ?_
  exact ⟨rfl, rfl⟩
set_option maxRecDepth 10000 in
set_option maxHeartbeats 4000000 in
theorem c_X9_stalks_full {h : pm_H} {xi : Nat → Int32} {xl : Nat → Int64} {xc : Nat → Option Nat} {XA : Nat → Nat → Int32} {XB : Nat → Nat → Int64} {n k fg : Int32} (hv : 4 ≤ n ∧ n ≤ 60 ∧ 2 ≤ k ∧ k ≤ 8) (hf : xi 0 = nI 10) : pm_Cv e_X9_stalks [.ref 1, .int n, .int k, .int fg] (pmX h xi xl xc XA XB) (.int (-2)) (pmX h xi xl xc XA XB) := by
  refine pm_enter rfl (Nat.le_of_ble_eq_true rfl) ?_
  show pm_V e_X9_stalks 0 [some (.ref 1), some (.int n), some (.int k), some (.int fg)] [] (pmX h xi xl xc XA XB) (1, 3) _
  refine r_iload_1 d_X9_stalks_0 ?_
  refine r_iload_2 d_X9_stalks_1 ?_
  refine r_S2 d_X9_stalks_2 c_X9_isBundle ⟨rfl, rfl⟩ (Nat.le_of_ble_eq_true rfl) ?_
  rw [if_pos hv]
  change pm_V _ _ _ (.int (nI 1) :: _) _ _ _
  refine r_if_ne d_X9_stalks_5 (fun c5 => ?_) (fun c5 => absurd c5 (by decide))
  clear c5
  refine r_aload_0 d_X9_stalks_10 ?_
  refine r_get d_X9_stalks_11 s9_casterCount rfl rfl ?_
  rw [hf]
  refine r_push (v := nI 10) d_X9_stalks_14 ?_
  refine r_icmp_lt d_X9_stalks_16 (fun c16 => absurd c16 (by decide)) (fun c16 => ?_)
  clear c16
  refine r_push d_X9_stalks_19 ?_
  refine r_ireturn d_X9_stalks_21 ⟨_, rfl, rfl⟩ ?_
  exact ⟨rfl, rfl⟩
set_option maxRecDepth 10000 in
set_option maxHeartbeats 4000000 in
theorem c_X9_stalks {h : pm_H} {xi : Nat → Int32} {xl : Nat → Int64} {xc : Nat → Option Nat} {XA : Nat → Nat → Int32} {XB : Nat → Nat → Int64} {cn n k f lo hi : Nat} (hcn : xi 0 = nI cn) (hn : cn < 10) (hh : h.1 = 68 + cn) (hf : f ≤ 1) (hv : 4 ≤ nI n ∧ nI n ≤ 60 ∧ 2 ≤ nI k ∧ nI k ≤ 8) : pm_Cv e_X9_stalks [.ref 1, .int (nI n), .int (nI k), .int (nI f)] (pmX h xi xl xc XA XB) (.int (nI cn)) (pmX (pm_nw h (.inr (6, [.int (nI n), .int (nI k), .int (nI f)]))) (upd xi 0 (nI (cn + 1))) xl (va_up xc cn (some (68 + cn))) XA XB) := by
  have hv0 : (pmX (pm_nw h (.inr (6, [.int 0, .int 0, .int 0]))) xi xl xc XA XB).2 (68 + cn) = some (.inr (6, [.int 0, .int 0, .int 0])) := by
    rw [pmX_ne (by omega), ← hh]; exact if_pos rfl
  have hv1 : (pmX (pm_nw h (.inr (6, [.int (nI n), .int (nI k), .int (nI f)]))) xi xl xc XA XB).2 (68 + cn) = some (.inr (6, [.int (nI n), .int (nI k), .int (nI f)])) := by
    rw [pmX_ne (by omega), ← hh]; exact if_pos rfl
  have hup : pm_up (pm_nw h (.inr (6, [.int 0, .int 0, .int 0]))) (68 + cn) (.inr (6, [.int (nI n), .int (nI k), .int (nI f)])) = (pm_nw h (.inr (6, [.int (nI n), .int (nI k), .int (nI f)]))) := by
    rw [← hh]
    refine Prod.ext rfl (funext fun q => ?_)
    show (if q = h.1 then _ else if q = h.1 then _ else _) = if q = h.1 then _ else _
    by_cases e : q = h.1 <;> simp [e]
  refine pm_enter rfl (Nat.le_of_ble_eq_true rfl) ?_
  show pm_V e_X9_stalks 0 [some (.ref 1), some (.int (nI n)), some (.int (nI k)), some (.int (nI f))] [] (pmX h xi xl xc XA XB) (1, 3) _
  refine r_iload_1 d_X9_stalks_0 ?_
  refine r_iload_2 d_X9_stalks_1 ?_
  refine r_S2 d_X9_stalks_2 c_X9_isBundle ⟨rfl, rfl⟩ (Nat.le_of_ble_eq_true rfl) ?_
  rw [if_pos hv]
  change pm_V _ _ _ (.int (nI 1) :: _) _ _ _
  refine r_if_ne d_X9_stalks_5 (fun c5 => ?_) (fun c5 => absurd c5 (by decide))
  clear c5
  refine r_aload_0 d_X9_stalks_10 ?_
  refine r_get d_X9_stalks_11 s9_casterCount rfl rfl ?_
  rw [hcn]
  refine r_push (v := nI 10) d_X9_stalks_14 ?_
  refine r_icmp_lt d_X9_stalks_16 (fun c16 => ?_) (fun c16 => ?_)
  · -- taken at 16
    have c16 : cn < 10 := (nI_ltI (a := cn) (b := 10) (by omega) (by omega)).mp c16
    refine r_aload_0 d_X9_stalks_22 ?_
    refine r_new (b' := (0, 0)) d_X9_stalks_23 rfl rfl ?_
    rw [show (pmX h xi xl xc XA XB).1 = 68 + cn from hh, pmX_nw (by omega)]
    refine r_dup d_X9_stalks_26 rfl ?_
    refine r_iload_1 d_X9_stalks_27 ?_
    refine r_iload_2 d_X9_stalks_28 ?_
    refine r_iload_3 d_X9_stalks_29 ?_
    refine r_I3v (b' := (0, 0)) d_X9_stalks_30 (c_X6_init6 (u := 0) (v := 0) hf hv0) rfl rfl (Nat.le_of_ble_eq_true rfl) ?_
    rw [pmX_hi (by omega), hup]
    refine r_V1 d_X9_stalks_33 (c_X9_keep6 hcn hn hv1) rfl rfl rfl ⟨rfl, rfl⟩ (Nat.le_of_ble_eq_true rfl) ?_
    refine r_ireturn d_X9_stalks_36 ⟨_, rfl, rfl⟩ ?_
    exact ⟨rfl, rfl⟩
  · -- not taken at 16
    have c16 : ¬ cn < 10 := fun zz9 => c16 ((nI_ltI (a := cn) (b := 10) (by omega) (by omega)).mpr zz9)
    exfalso; omega
set_option maxRecDepth 10000 in
set_option maxHeartbeats 4000000 in
theorem c_X9_thumb {h : pm_H} {xi : Nat → Int32} {xl : Nat → Int64} {xc : Nat → Option Nat} {XA : Nat → Nat → Int32} {XB : Nat → Nat → Int64} {cn n k f lo hi : Nat} (hcn : xi 0 = nI cn) (hn : cn < 10) (hh : h.1 = 68 + cn) (hf : f ≤ 1) (hv : 4 ≤ nI n ∧ nI n ≤ 60 ∧ 2 ≤ nI k ∧ nI k ≤ 8) (h1 : 1 ≤ lo) (h2 : lo ≤ hi) (h3 : hi ≤ 59) : pm_Cv e_X9_thumb [.ref 1, .int (nI n), .int (nI k), .int (nI f), .int (nI lo), .int (nI hi)] (pmX h xi xl xc XA XB) (.int (nI cn)) (pmX (pm_nw h (.inr (7, [.int (nI n), .int (nI k), .int (nI f), .int (nI lo), .int (nI hi)]))) (upd xi 0 (nI (cn + 1))) xl (va_up xc cn (some (68 + cn))) XA XB) := by
  have hv0 : (pmX (pm_nw h (.inr (7, [.int 0, .int 0, .int 0, .int 0, .int 0]))) xi xl xc XA XB).2 (68 + cn) = some (.inr (7, [.int 0, .int 0, .int 0, .int 0, .int 0])) := by
    rw [pmX_ne (by omega), ← hh]; exact if_pos rfl
  have hv1 : (pmX (pm_nw h (.inr (7, [.int (nI n), .int (nI k), .int (nI f), .int (nI lo), .int (nI hi)]))) xi xl xc XA XB).2 (68 + cn) = some (.inr (7, [.int (nI n), .int (nI k), .int (nI f), .int (nI lo), .int (nI hi)])) := by
    rw [pmX_ne (by omega), ← hh]; exact if_pos rfl
  have hup : pm_up (pm_nw h (.inr (7, [.int 0, .int 0, .int 0, .int 0, .int 0]))) (68 + cn) (.inr (7, [.int (nI n), .int (nI k), .int (nI f), .int (nI lo), .int (nI hi)])) = (pm_nw h (.inr (7, [.int (nI n), .int (nI k), .int (nI f), .int (nI lo), .int (nI hi)]))) := by
    rw [← hh]
    refine Prod.ext rfl (funext fun q => ?_)
    show (if q = h.1 then _ else if q = h.1 then _ else _) = if q = h.1 then _ else _
    by_cases e : q = h.1 <;> simp [e]
  refine pm_enter rfl (Nat.le_of_ble_eq_true rfl) ?_
  show pm_V e_X9_thumb 0 [some (.ref 1), some (.int (nI n)), some (.int (nI k)), some (.int (nI f)), some (.int (nI lo)), some (.int (nI hi))] [] (pmX h xi xl xc XA XB) (1, 5) _
  refine r_iload_1 d_X9_thumb_0 ?_
  refine r_iload_2 d_X9_thumb_1 ?_
  refine r_S2 d_X9_thumb_2 c_X9_isBundle ⟨rfl, rfl⟩ (Nat.le_of_ble_eq_true rfl) ?_
  rw [if_pos hv]
  change pm_V _ _ _ (.int (nI 1) :: _) _ _ _
  refine r_if_eq d_X9_thumb_5 (fun c5 => absurd c5 (by decide)) (fun c5 => ?_)
  clear c5
  refine r_iload_4 d_X9_thumb_8 ?_
  refine r_push (v := nI 1) d_X9_thumb_10 ?_
  refine r_icmp_lt d_X9_thumb_11 (fun c11 => ?_) (fun c11 => ?_)
  · -- taken at 11
    have c11 : lo < 1 := (nI_ltI (a := lo) (b := 1) (by omega) (by omega)).mp c11
    exfalso; omega
  · -- not taken at 11
    have c11 : ¬ lo < 1 := fun zz9 => c11 ((nI_ltI (a := lo) (b := 1) (by omega) (by omega)).mpr zz9)
    refine r_iload_5 d_X9_thumb_14 ?_
    refine r_iload_4 d_X9_thumb_16 ?_
    refine r_icmp_lt d_X9_thumb_18 (fun c18 => ?_) (fun c18 => ?_)
    · -- taken at 18
      have c18 : hi < lo := (nI_ltI (a := hi) (b := lo) (by omega) (by omega)).mp c18
      exfalso; omega
    · -- not taken at 18
      have c18 : ¬ hi < lo := fun zz9 => c18 ((nI_ltI (a := hi) (b := lo) (by omega) (by omega)).mpr zz9)
      refine r_iload_5 d_X9_thumb_21 ?_
      refine r_push (v := nI 59) d_X9_thumb_23 ?_
      refine r_icmp_le d_X9_thumb_25 (fun c25 => ?_) (fun c25 => ?_)
      · -- taken at 25
        have c25 : hi ≤ 59 := (nI_leI (a := hi) (b := 59) (by omega) (by omega)).mp c25
        refine r_aload_0 d_X9_thumb_30 ?_
        refine r_get d_X9_thumb_31 s9_casterCount rfl rfl ?_
        rw [hcn]
        refine r_push (v := nI 10) d_X9_thumb_34 ?_
        refine r_icmp_lt d_X9_thumb_36 (fun c36 => ?_) (fun c36 => ?_)
        · -- taken at 36
          have c36 : cn < 10 := (nI_ltI (a := cn) (b := 10) (by omega) (by omega)).mp c36
          refine r_aload_0 d_X9_thumb_42 ?_
          refine r_new (b' := (0, 0)) d_X9_thumb_43 rfl rfl ?_
          rw [show (pmX h xi xl xc XA XB).1 = 68 + cn from hh, pmX_nw (by omega)]
          refine r_dup d_X9_thumb_46 rfl ?_
          refine r_iload_1 d_X9_thumb_47 ?_
          refine r_iload_2 d_X9_thumb_48 ?_
          refine r_iload_3 d_X9_thumb_49 ?_
          refine r_iload_4 d_X9_thumb_50 ?_
          refine r_iload_5 d_X9_thumb_52 ?_
          refine r_I5v (b' := (0, 0)) d_X9_thumb_54 (c_X7_init hf hv0) rfl rfl (Nat.le_of_ble_eq_true rfl) ?_
          rw [pmX_hi (by omega), hup]
          refine r_V1 d_X9_thumb_57 (c_X9_keep7 hcn hn hv1) rfl rfl rfl ⟨rfl, rfl⟩ (Nat.le_of_ble_eq_true rfl) ?_
          refine r_ireturn d_X9_thumb_60 ⟨_, rfl, rfl⟩ ?_
          exact ⟨rfl, rfl⟩
        · -- not taken at 36
          have c36 : ¬ cn < 10 := fun zz9 => c36 ((nI_ltI (a := cn) (b := 10) (by omega) (by omega)).mpr zz9)
          exfalso; omega
      · -- not taken at 25
        have c25 : ¬ hi ≤ 59 := fun zz9 => c25 ((nI_leI (a := hi) (b := 59) (by omega) (by omega)).mpr zz9)
        exfalso; omega
set_option maxRecDepth 10000 in
set_option maxHeartbeats 4000000 in
theorem c_X9_thumb_bad1 {h : pm_H} {xi : Nat → Int32} {xl : Nat → Int64} {xc : Nat → Option Nat} {XA : Nat → Nat → Int32} {XB : Nat → Nat → Int64} {n k fg lo hi : Int32} (hv : ¬ (4 ≤ n ∧ n ≤ 60 ∧ 2 ≤ k ∧ k ≤ 8)) : pm_Cv e_X9_thumb [.ref 1, .int n, .int k, .int fg, .int lo, .int hi] (pmX h xi xl xc XA XB) (.int (-1)) (pmX h xi xl xc XA XB) := by
  refine pm_enter rfl (Nat.le_of_ble_eq_true rfl) ?_
  show pm_V e_X9_thumb 0 [some (.ref 1), some (.int n), some (.int k), some (.int fg), some (.int lo), some (.int hi)] [] (pmX h xi xl xc XA XB) (1, 5) _
  refine r_iload_1 d_X9_thumb_0 ?_
  refine r_iload_2 d_X9_thumb_1 ?_
  refine r_S2 d_X9_thumb_2 c_X9_isBundle ⟨rfl, rfl⟩ (Nat.le_of_ble_eq_true rfl) ?_
  rw [if_neg hv]
  change pm_V _ _ _ (.int (nI 0) :: _) _ _ _
  refine r_if_eq d_X9_thumb_5 (fun c5 => ?_) (fun c5 => absurd (by decide) c5)
  clear c5
  refine r_push d_X9_thumb_28 ?_
  refine r_ireturn d_X9_thumb_29 ⟨_, rfl, rfl⟩ ?_
  exact ⟨rfl, rfl⟩
set_option maxRecDepth 10000 in
set_option maxHeartbeats 4000000 in
theorem c_X9_thumb_bad2 {h : pm_H} {xi : Nat → Int32} {xl : Nat → Int64} {xc : Nat → Option Nat} {XA : Nat → Nat → Int32} {XB : Nat → Nat → Int64} {n k fg lo hi : Int32} (hv : 4 ≤ n ∧ n ≤ 60 ∧ 2 ≤ k ∧ k ≤ 8) (hb : ¬ (1 ≤ lo ∧ lo ≤ hi ∧ hi ≤ 59)) : pm_Cv e_X9_thumb [.ref 1, .int n, .int k, .int fg, .int lo, .int hi] (pmX h xi xl xc XA XB) (.int (-1)) (pmX h xi xl xc XA XB) := by
  refine pm_enter rfl (Nat.le_of_ble_eq_true rfl) ?_
  show pm_V e_X9_thumb 0 [some (.ref 1), some (.int n), some (.int k), some (.int fg), some (.int lo), some (.int hi)] [] (pmX h xi xl xc XA XB) (1, 5) _
  refine r_iload_1 d_X9_thumb_0 ?_
  refine r_iload_2 d_X9_thumb_1 ?_
  refine r_S2 d_X9_thumb_2 c_X9_isBundle ⟨rfl, rfl⟩ (Nat.le_of_ble_eq_true rfl) ?_
  rw [if_pos hv]
  change pm_V _ _ _ (.int (nI 1) :: _) _ _ _
  refine r_if_eq d_X9_thumb_5 (fun c5 => absurd c5 (by decide)) (fun c5 => ?_)
  clear c5
  refine r_iload_4 d_X9_thumb_8 ?_
  refine r_push d_X9_thumb_10 ?_
  refine r_icmp_lt d_X9_thumb_11 (fun c11 => ?_) (fun c11 => ?_)
  · -- taken at 11
    refine r_push d_X9_thumb_28 ?_
    refine r_ireturn d_X9_thumb_29 ⟨_, rfl, rfl⟩ ?_
    exact ⟨rfl, rfl⟩
  · -- not taken at 11
    refine r_iload_5 d_X9_thumb_14 ?_
    refine r_iload_4 d_X9_thumb_16 ?_
    refine r_icmp_lt d_X9_thumb_18 (fun c18 => ?_) (fun c18 => ?_)
    · -- taken at 18
      refine r_push d_X9_thumb_28 ?_
      refine r_ireturn d_X9_thumb_29 ⟨_, rfl, rfl⟩ ?_
      exact ⟨rfl, rfl⟩
    · -- not taken at 18
      refine r_iload_5 d_X9_thumb_21 ?_
      refine r_push d_X9_thumb_23 ?_
      refine r_icmp_le d_X9_thumb_25 (fun c25 => ?_) (fun c25 => ?_)
      · -- taken at 25
        exact absurd ⟨Int32.not_lt.mp c11, Int32.not_lt.mp c18, c25⟩ hb
      · -- not taken at 25
        refine r_push d_X9_thumb_28 ?_
        refine r_ireturn d_X9_thumb_29 ⟨_, rfl, rfl⟩ ?_
        exact ⟨rfl, rfl⟩
set_option maxRecDepth 10000 in
set_option maxHeartbeats 4000000 in
theorem c_X9_thumb_full {h : pm_H} {xi : Nat → Int32} {xl : Nat → Int64} {xc : Nat → Option Nat} {XA : Nat → Nat → Int32} {XB : Nat → Nat → Int64} {n k fg lo hi : Int32} (hv : 4 ≤ n ∧ n ≤ 60 ∧ 2 ≤ k ∧ k ≤ 8) (hb : 1 ≤ lo ∧ lo ≤ hi ∧ hi ≤ 59) (hf : xi 0 = nI 10) : pm_Cv e_X9_thumb [.ref 1, .int n, .int k, .int fg, .int lo, .int hi] (pmX h xi xl xc XA XB) (.int (-2)) (pmX h xi xl xc XA XB) := by
  refine pm_enter rfl (Nat.le_of_ble_eq_true rfl) ?_
  show pm_V e_X9_thumb 0 [some (.ref 1), some (.int n), some (.int k), some (.int fg), some (.int lo), some (.int hi)] [] (pmX h xi xl xc XA XB) (1, 5) _
  refine r_iload_1 d_X9_thumb_0 ?_
  refine r_iload_2 d_X9_thumb_1 ?_
  refine r_S2 d_X9_thumb_2 c_X9_isBundle ⟨rfl, rfl⟩ (Nat.le_of_ble_eq_true rfl) ?_
  rw [if_pos hv]
  change pm_V _ _ _ (.int (nI 1) :: _) _ _ _
  refine r_if_eq d_X9_thumb_5 (fun c5 => absurd c5 (by decide)) (fun c5 => ?_)
  clear c5
  refine r_iload_4 d_X9_thumb_8 ?_
  refine r_push (v := nI 1) d_X9_thumb_10 ?_
  refine r_icmp_lt d_X9_thumb_11 (fun c11 => ?_) (fun c11 => ?_)
  · -- taken at 11
    first | exact absurd c11 (Int32.not_lt.mpr hb.1) | exact absurd c18 (Int32.not_lt.mpr hb.2.1) | exact absurd hb.2.2 c25
  · -- not taken at 11
    refine r_iload_5 d_X9_thumb_14 ?_
    refine r_iload_4 d_X9_thumb_16 ?_
    refine r_icmp_lt d_X9_thumb_18 (fun c18 => ?_) (fun c18 => ?_)
    · -- taken at 18
      first | exact absurd c11 (Int32.not_lt.mpr hb.1) | exact absurd c18 (Int32.not_lt.mpr hb.2.1) | exact absurd hb.2.2 c25
    · -- not taken at 18
      refine r_iload_5 d_X9_thumb_21 ?_
      refine r_push (v := nI 59) d_X9_thumb_23 ?_
      refine r_icmp_le d_X9_thumb_25 (fun c25 => ?_) (fun c25 => ?_)
      · -- taken at 25
        refine r_aload_0 d_X9_thumb_30 ?_
        refine r_get d_X9_thumb_31 s9_casterCount rfl rfl ?_
        rw [hf]
        refine r_push (v := nI 10) d_X9_thumb_34 ?_
        refine r_icmp_lt d_X9_thumb_36 (fun c36 => absurd c36 (by decide)) (fun c36 => ?_)
        clear c36
        refine r_push d_X9_thumb_39 ?_
        refine r_ireturn d_X9_thumb_41 ⟨_, rfl, rfl⟩ ?_
        exact ⟨rfl, rfl⟩
      · -- not taken at 25
        first | exact absurd c11 (Int32.not_lt.mpr hb.1) | exact absurd c18 (Int32.not_lt.mpr hb.2.1) | exact absurd hb.2.2 c25
