theorem pm_nwne {h : pm_H} {a : Nat} {c : pm_C} {x : Option pm_C} (n : a ≠ h.1) (e : h.2 a = x) : (pm_nw h c).2 a = x := (if_neg n).trans e
theorem pm_nws {h : pm_H} {N : Nat} {c : pm_C} (e : h.1 = N) : (pm_nw h c).2 N = some c := if_pos e.symm
set_option maxRecDepth 10000 in
set_option maxHeartbeats 4000000 in
theorem c_X5_init {h : pm_H} {a : Nat} {x : Int64} (ha : h.2 a = some (.inr (5, [.long x]))) : pm_C0 e_X5_init [.ref a] h (pm_up h a (.inr (5, [.long 0]))) := by
  refine pm_enter rfl (Nat.le_of_ble_eq_true rfl) ?_
  show pm_V e_X5_init 0 [some (.ref a)] [] h (0, 0) _
  refine r_aload_0 d_X5_init_0 ?_
  refine r_objInit d_X5_init_1 wm_113 wm_64 wm_65 (Nat.le_of_ble_eq_true rfl) (Nat.le_of_ble_eq_true rfl) ?_
  refine r_aload_0 d_X5_init_4 ?_
  refine r_pushl d_X5_init_5 ?_
  refine r_put d_X5_init_6 s5_s ha (Nat.le_of_ble_eq_true rfl) ⟨rfl, rfl⟩ ?_
  refine r_return d_X5_init_9 rfl ?_
  exact ⟨rfl, rfl⟩
set_option maxRecDepth 10000 in
set_option maxHeartbeats 4000000 in
theorem c_X3_init {h : pm_H} {a N : Nat} (hN : h.1 = N) (haN : a ≠ N) (ha : h.2 a = some (.inr (3, [.null]))) : pm_C0 e_X3_init [.ref a] h (pm_up (pm_up (pm_nw h (at_I 6 (fun _ => 0))) a (.inr (3, [.ref N]))) N (at_I 6 (pm_fl (nI 8) (fun _ => 0) 6))) := by
  refine pm_enter rfl (Nat.le_of_ble_eq_true rfl) ?_
  show pm_V e_X3_init 0 [some (.ref a)] [] h (1, 6) _
  refine r_aload_0 d_X3_init_0 ?_
  refine r_objInit d_X3_init_1 wm_74 wm_64 wm_65 (Nat.le_of_ble_eq_true rfl) (Nat.le_of_ble_eq_true rfl) ?_
  refine r_aload_0 d_X3_init_4 ?_
  refine r_push (v := nI 6) d_X3_init_5 ?_
  refine r_newa (t0 := 0) (N := 6) (x := (6, .inl (fun _ => 0))) (b' := (0, 0)) d_X3_init_7 rfl rfl wm_83 (fun _ _ => rfl) (by decide) rfl (by decide) rfl rfl (fun z => by cases z) (fun C z => by cases z) ?_
  rw [hN]
  refine r_putF d_X3_init_9 s3_lines rfl rfl (pm_nwne (by rw [hN]; exact haN) ha) (Nat.le_of_ble_eq_true rfl) ⟨rfl, rfl⟩ ?_ (pm_nonest rfl)
  refine r_aload_0 d_X3_init_12 ?_
  refine r_get d_X3_init_13 s3_lines pm_same rfl ?_
  refine r_push (v := nI 8) d_X3_init_16 ?_
  refine r_S2v d_X3_init_18 (c_J7_fill_53178 (n := 6) (by decide) (pm_ne (Ne.symm haN) (pm_nws hN))) ⟨rfl, rfl⟩ (Nat.le_of_ble_eq_true rfl) ?_
  refine r_return d_X3_init_21 rfl ?_
  exact ⟨rfl, rfl⟩
set_option maxRecDepth 10000 in
set_option maxHeartbeats 4000000 in
theorem c_X0_init {h : pm_H} {a N : Nat} {x : Int32} (hN : h.1 = N) (haN : a ≠ N) (ha : h.2 a = some (.inr (0, [.null, .int x]))) : pm_C0 e_X0_init [.ref a] h (pm_up (pm_nw h (at_Y 64 (fun _ => 0))) a (.inr (0, [.ref N, .int (-1)]))) := by
  refine pm_enter rfl (Nat.le_of_ble_eq_true rfl) ?_
  show pm_V e_X0_init 0 [some (.ref a)] [] h (1, 64) _
  refine r_aload_0 d_X0_init_0 ?_
  refine r_objInit d_X0_init_1 wm_150 wm_64 wm_65 (Nat.le_of_ble_eq_true rfl) (Nat.le_of_ble_eq_true rfl) ?_
  refine r_aload_0 d_X0_init_4 ?_
  refine r_push (v := nI 64) d_X0_init_5 ?_
  refine r_newa (t0 := 2) (N := 64) (x := (64, .inl (fun _ => 0))) (b' := (0, 0)) d_X0_init_7 rfl rfl wm_160 (fun _ _ => rfl) (by decide) rfl (by decide) rfl rfl (fun z => by cases z) (fun C z => by cases z) ?_
  rw [hN]
  refine r_putF d_X0_init_9 s0_bytes rfl rfl (pm_nwne (by rw [hN]; exact haN) ha) (Nat.le_of_ble_eq_true rfl) ⟨rfl, rfl⟩ ?_ (pm_nonest rfl)
  refine r_aload_0 d_X0_init_12 ?_
  refine r_push d_X0_init_13 ?_
  refine r_put d_X0_init_14 s0_size pm_same (Nat.le_of_ble_eq_true rfl) ⟨rfl, rfl⟩ ?_
  rw [pm_up_up]
  refine r_return d_X0_init_17 rfl ?_
  exact ⟨rfl, rfl⟩
