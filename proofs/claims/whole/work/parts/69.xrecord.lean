set_option maxRecDepth 10000 in
set_option maxHeartbeats 4000000 in
theorem c_X9_record_bad1a {h : pm_H} {xi : Nat → Int32} {xl : Nat → Int64} {xc : Nat → Option Nat} {XA : Nat → Nat → Int32} {XB : Nat → Nat → Int64} {r c m : Int32} {s : Int64} {cn : Nat} {C : Nat → sp_Cs} (hCC : x_CC h xi xc cn C) (hr : sp_in r 0 3 = false) (hci : pm_ci c cn = none) : pm_Cv e_X9_record [.ref 1, .int r, .int c, .long s, .int m] (pmX h xi xl xc XA XB) (.int (-1)) (pmX h xi xl xc XA XB) := by
  refine pm_enter rfl (Nat.le_of_ble_eq_true rfl) ?_
  show pm_V e_X9_record 0 [some (.ref 1), some (.int r), some (.int c), some (.long s), none, some (.int m), none, none, none] [] (pmX h xi xl xc XA XB) (0, 0) _
  refine r_aload_0 d_X9_record_0 ?_
  refine r_iload_1 d_X9_record_1 ?_
  refine r_V1 d_X9_record_2 (c_X9_rowAt_no hr) rfl rfl rfl ⟨rfl, rfl⟩ (Nat.le_of_ble_eq_true rfl) ?_
  refine r_astoreN_6 d_X9_record_5 (Nat.le_of_ble_eq_true rfl) (fun w hw => by cases hw <;> rfl) ?_
  refine r_aload_0 d_X9_record_7 ?_
  refine r_iload_2 d_X9_record_8 ?_
  refine r_V1 d_X9_record_9 (c_X9_casterAt_no hCC.1 hci) rfl rfl rfl ⟨rfl, rfl⟩ (Nat.le_of_ble_eq_true rfl) ?_
  refine r_astoreN_7 d_X9_record_12 (Nat.le_of_ble_eq_true rfl) (fun w hw => by cases hw <;> rfl) ?_
  refine r_aloadN_6 d_X9_record_14 ?_
  refine r_ifnullN d_X9_record_16 ?_
  refine r_push d_X9_record_36 ?_
  refine r_ireturn d_X9_record_37 ⟨_, rfl, rfl⟩ ?_
  exact ⟨rfl, rfl⟩
set_option maxRecDepth 10000 in
set_option maxHeartbeats 4000000 in
theorem c_X9_record_bad1b {h : pm_H} {xi : Nat → Int32} {xl : Nat → Int64} {xc : Nat → Option Nat} {XA : Nat → Nat → Int32} {XB : Nat → Nat → Int64} {r m : Int32} {j : Nat} {s : Int64} {cn : Nat} {C : Nat → sp_Cs} (hCC : x_CC h xi xc cn C) (hr : sp_in r 0 3 = false) (hj : j < cn) : pm_Cv e_X9_record [.ref 1, .int r, .int (nI j), .long s, .int m] (pmX h xi xl xc XA XB) (.int (-1)) (pmX h xi xl xc XA XB) := by
  refine pm_enter rfl (Nat.le_of_ble_eq_true rfl) ?_
  show pm_V e_X9_record 0 [some (.ref 1), some (.int r), some (.int (nI j)), some (.long s), none, some (.int m), none, none, none] [] (pmX h xi xl xc XA XB) (0, 0) _
  refine r_aload_0 d_X9_record_0 ?_
  refine r_iload_1 d_X9_record_1 ?_
  refine r_V1 d_X9_record_2 (c_X9_rowAt_no hr) rfl rfl rfl ⟨rfl, rfl⟩ (Nat.le_of_ble_eq_true rfl) ?_
  refine r_astoreN_6 d_X9_record_5 (Nat.le_of_ble_eq_true rfl) (fun w hw => by cases hw <;> rfl) ?_
  refine r_aload_0 d_X9_record_7 ?_
  refine r_iload_2 d_X9_record_8 ?_
  refine r_V1 d_X9_record_9 (c_X9_casterAt hCC hj) rfl rfl rfl ⟨rfl, rfl⟩ (Nat.le_of_ble_eq_true rfl) ?_
  refine r_astore_7 d_X9_record_12 (Nat.le_of_ble_eq_true rfl) (fun w hw => by cases hw <;> rfl) ?_
  refine r_aloadN_6 d_X9_record_14 ?_
  refine r_ifnullN d_X9_record_16 ?_
  refine r_push d_X9_record_36 ?_
  refine r_ireturn d_X9_record_37 ⟨_, rfl, rfl⟩ ?_
  exact ⟨rfl, rfl⟩
set_option maxRecDepth 10000 in
set_option maxHeartbeats 4000000 in
theorem c_X9_record_bad2 {h : pm_H} {xi : Nat → Int32} {xl : Nat → Int64} {xc : Nat → Option Nat} {XA : Nat → Nat → Int32} {XB : Nat → Nat → Int64} {c m : Int32} {r : Nat} {s : Int64} {cn : Nat} {C : Nat → sp_Cs} (hCC : x_CC h xi xc cn C) (hr : r < 4) (hci : pm_ci c cn = none) : pm_Cv e_X9_record [.ref 1, .int (nI r), .int c, .long s, .int m] (pmX h xi xl xc XA XB) (.int (-1)) (pmX h xi xl xc XA XB) := by
  refine pm_enter rfl (Nat.le_of_ble_eq_true rfl) ?_
  show pm_V e_X9_record 0 [some (.ref 1), some (.int (nI r)), some (.int c), some (.long s), none, some (.int m), none, none, none] [] (pmX h xi xl xc XA XB) (0, 0) _
  refine r_aload_0 d_X9_record_0 ?_
  refine r_iload_1 d_X9_record_1 ?_
  refine r_V1 d_X9_record_2 (c_X9_rowAt hr) rfl rfl rfl ⟨rfl, rfl⟩ (Nat.le_of_ble_eq_true rfl) ?_
  refine r_astore_6 d_X9_record_5 (Nat.le_of_ble_eq_true rfl) (fun w hw => by cases hw <;> rfl) ?_
  refine r_aload_0 d_X9_record_7 ?_
  refine r_iload_2 d_X9_record_8 ?_
  refine r_V1 d_X9_record_9 (c_X9_casterAt_no hCC.1 hci) rfl rfl rfl ⟨rfl, rfl⟩ (Nat.le_of_ble_eq_true rfl) ?_
  refine r_astoreN_7 d_X9_record_12 (Nat.le_of_ble_eq_true rfl) (fun w hw => by cases hw <;> rfl) ?_
  refine r_aload_6 d_X9_record_14 ?_
  refine r_ifnull d_X9_record_16 ?_
  refine r_aloadN_7 d_X9_record_19 ?_
  refine r_ifnullN d_X9_record_21 ?_
  refine r_push d_X9_record_36 ?_
  refine r_ireturn d_X9_record_37 ⟨_, rfl, rfl⟩ ?_
  exact ⟨rfl, rfl⟩
set_option maxRecDepth 10000 in
set_option maxHeartbeats 4000000 in
theorem c_X9_record_bad3 {h : pm_H} {xi : Nat → Int32} {xl : Nat → Int64} {xc : Nat → Option Nat} {XA : Nat → Nat → Int32} {XB : Nat → Nat → Int64} {m : Int32} {r j : Nat} {s : Int64} {cn : Nat} {C : Nat → sp_Cs} (hCC : x_CC h xi xc cn C) (hr : r < 4) (hj : j < cn) (hm : sp_in m 0 64 = false) : pm_Cv e_X9_record [.ref 1, .int (nI r), .int (nI j), .long s, .int m] (pmX h xi xl xc XA XB) (.int (-1)) (pmX h xi xl xc XA XB) := by
  refine pm_enter rfl (Nat.le_of_ble_eq_true rfl) ?_
  show pm_V e_X9_record 0 [some (.ref 1), some (.int (nI r)), some (.int (nI j)), some (.long s), none, some (.int m), none, none, none] [] (pmX h xi xl xc XA XB) (0, 0) _
  refine r_aload_0 d_X9_record_0 ?_
  refine r_iload_1 d_X9_record_1 ?_
  refine r_V1 d_X9_record_2 (c_X9_rowAt hr) rfl rfl rfl ⟨rfl, rfl⟩ (Nat.le_of_ble_eq_true rfl) ?_
  refine r_astore_6 d_X9_record_5 (Nat.le_of_ble_eq_true rfl) (fun w hw => by cases hw <;> rfl) ?_
  refine r_aload_0 d_X9_record_7 ?_
  refine r_iload_2 d_X9_record_8 ?_
  refine r_V1 d_X9_record_9 (c_X9_casterAt hCC hj) rfl rfl rfl ⟨rfl, rfl⟩ (Nat.le_of_ble_eq_true rfl) ?_
  refine r_astore_7 d_X9_record_12 (Nat.le_of_ble_eq_true rfl) (fun w hw => by cases hw <;> rfl) ?_
  refine r_aload_6 d_X9_record_14 ?_
  refine r_ifnull d_X9_record_16 ?_
  refine r_aload_7 d_X9_record_19 ?_
  refine r_ifnull d_X9_record_21 ?_
  refine r_iload_5 d_X9_record_24 ?_
  refine r_if_lt d_X9_record_26 (fun c26 => ?_) (fun c26 => ?_)
  · -- taken at 26
    refine r_push d_X9_record_36 ?_
    refine r_ireturn d_X9_record_37 ⟨_, rfl, rfl⟩ ?_
    exact ⟨rfl, rfl⟩
  · -- not taken at 26
    refine r_iload_5 d_X9_record_29 ?_
    refine r_push d_X9_record_31 ?_
    refine r_icmp_le d_X9_record_33 (fun c33 => ?_) (fun c33 => ?_)
    · -- taken at 33
      exact absurd ⟨Int32.not_lt.mp c26, c33⟩ (of_decide_eq_false hm)
    · -- not taken at 33
      refine r_push d_X9_record_36 ?_
      refine r_ireturn d_X9_record_37 ⟨_, rfl, rfl⟩ ?_
      exact ⟨rfl, rfl⟩
theorem x_b30 : ∀ y, y < 31 → (nI y).toInt8.toInt32 = nI y ∧ vp_nar .byte (nI y) = nI y := by decide +kernel
theorem pm_fc_sb (p f : Nat → Int32) (i : Nat) (x : Int32) (h : x = p i) : upd (pm_fc p f i) i x = pm_fc p f (i + 1) := by rw [h]; exact pm_fc_s p f i
set_option maxRecDepth 10000 in
set_option maxHeartbeats 4000000 in
theorem lp_X9_record {h : pm_H} {xi : Nat → Int32} {xl : Nat → Int64} {xc : Nat → Option Nat} {XA : Nat → Nat → Int32} {XB : Nat → Nat → Int64} {r j m kd n k f lo hi : Nat} {s : Int64} (hr : r < 4) (hm : m ≤ 64) (hcs : pm_cs h (68 + j) kd n k f lo hi) {F : Option Value → pm_H → Prop} {b : Nat × Nat} (K : pm_V e_X9_record 87 [some (.ref 1), some (.int (nI r)), some (.int (nI j)), some (.long s), none, some (.int (nI m)), some (.ref (36 + 2 * r)), some (.ref (68 + j)), some (.int (nI m))] [] (pmX h xi (vp_updL xl 3 (sp_sd kd n k f lo hi s m)) xc (va_up XA (37 + 2 * r) (pm_fc (fun i => nI ((sp_ln kd n k f lo hi s) i)) (pm_fl (nI 0) (XA (37 + 2 * r)) 64) m)) XB) b F) : ∀ (d i : Nat), i + d = m → pm_V e_X9_record 56 [some (.ref 1), some (.int (nI r)), some (.int (nI j)), some (.long s), none, some (.int (nI m)), some (.ref (36 + 2 * r)), some (.ref (68 + j)), some (.int (nI i))] [] (pmX h xi (vp_updL xl 3 (sp_sd kd n k f lo hi s i)) xc (va_up XA (37 + 2 * r) (pm_fc (fun i => nI ((sp_ln kd n k f lo hi s) i)) (pm_fl (nI 0) (XA (37 + 2 * r)) 64) i)) XB) b F := by
  intro d
  induction d with
  | zero =>
    intro i hid
    obtain rfl : i = m := by omega
    refine r_iload_8 d_X9_record_56 ?_
    refine r_iload_5 d_X9_record_58 ?_
    refine r_icmp_ge d_X9_record_60 (fun c60 => ?_) (fun c60 => ?_)
    · -- taken at 60
      have c60 : i ≤ i := (nI_leI (a := i) (b := i) (by omega) (by omega)).mp c60
      exact K
    · -- not taken at 60
      have c60 : ¬ i ≤ i := fun zz9 => c60 ((nI_leI (a := i) (b := i) (by omega) (by omega)).mpr zz9)
      exfalso; omega
  | succ d ih =>
    intro i hid
    have hle := sp_draw_le (pm_cs_k hcs) (sp_sd kd n k f lo hi s i)
    have esd : (sp_sd kd n k f lo hi s (i + 1)) = (sp_draw kd n k f lo hi (sp_sd kd n k f lo hi s i)).2 := sp_sd_s kd n k f lo hi s i
    have eln : (sp_ln kd n k f lo hi s) i = (sp_draw kd n k f lo hi (sp_sd kd n k f lo hi s i)).1 := rfl
    rw [← eln] at hle
    obtain ⟨b1, b2⟩ := x_b30 ((sp_ln kd n k f lo hi s) i) (by omega)
    have hll : ∀ x y : Int64, vp_updL (vp_updL xl 3 x) 3 y = vp_updL xl 3 y := fun x y => pm_luu xl 3 x y
    have tail : pm_V e_X9_record 79 [some (.ref 1), some (.int (nI r)), some (.int (nI j)), some (.long s), none, some (.int (nI m)), some (.ref (36 + 2 * r)), some (.ref (68 + j)), some (.int (nI i))] [.int (nI ((sp_ln kd n k f lo hi s) i)), .int (nI i), .ref (37 + 2 * r)] (pmX h xi (vp_updL xl 3 (sp_sd kd n k f lo hi s (i + 1))) xc (va_up XA (37 + 2 * r) (pm_fc (fun i => nI ((sp_ln kd n k f lo hi s) i)) (pm_fl (nI 0) (XA (37 + 2 * r)) 64) i)) XB) b F := by
      refine r_i2b d_X9_record_79 ?_
      rw [b1]
      refine r_bast d_X9_record_80 (xr_l hr) (pm_ixN (by omega) (by omega)) ?_
      rw [xr_up hr, m_aua, show va_up XA (37 + 2 * r) (pm_fc (fun i => nI ((sp_ln kd n k f lo hi s) i)) (pm_fl (nI 0) (XA (37 + 2 * r)) 64) i) (37 + 2 * r) = (pm_fc (fun i => nI ((sp_ln kd n k f lo hi s) i)) (pm_fl (nI 0) (XA (37 + 2 * r)) 64) i) from if_pos rfl, pm_fc_sb (fun i => nI ((sp_ln kd n k f lo hi s) i)) (pm_fl (nI 0) (XA (37 + 2 * r)) 64) i _ b2]
      refine r_iinc_8 d_X9_record_81 (Nat.le_of_ble_eq_true rfl) (fun w hw => by cases hw <;> rfl) ?_
      rw [nI_1]
      refine r_goto d_X9_record_84 ?_
      exact ih (i + 1) (by omega)
    have hq := hcs
    rcases hq with ⟨e, z⟩ | ⟨e, z⟩ | ⟨e, e1, e2, e3, z⟩ | ⟨e, e1, z⟩
    ·
      subst e
      have z9 : (pmX h xi (vp_updL xl 3 (sp_sd 0 n k f lo hi s i)) xc (va_up XA (37 + 2 * r) (pm_fc (fun i => nI ((sp_ln 0 n k f lo hi s) i)) (pm_fl (nI 0) (XA (37 + 2 * r)) 64) i)) XB).2 (68 + j) = _ := (pmX_ne (by omega)).trans z
      refine r_iload_8 d_X9_record_56 ?_
      refine r_iload_5 d_X9_record_58 ?_
      refine r_icmp_ge d_X9_record_60 (fun c60 => ?_) (fun c60 => ?_)
      · -- taken at 60
        have c60 : m ≤ i := (nI_leI (a := m) (b := i) (by omega) (by omega)).mp c60
        exfalso; omega
      · -- not taken at 60
        have c60 : ¬ m ≤ i := fun zz9 => c60 ((nI_leI (a := m) (b := i) (by omega) (by omega)).mpr zz9)
        refine r_aload_6 d_X9_record_63 ?_
        refine r_get d_X9_record_65 s0_bytes (xr_o hr) rfl ?_
        refine r_iload_8 d_X9_record_68 ?_
        refine r_aload_7 d_X9_record_70 ?_
        refine r_aload_0 d_X9_record_72 ?_
        refine r_get d_X9_record_73 s9_seed rfl rfl ?_
        refine r_V1 d_X9_record_76_1 c_X1_castLine z9 rfl rfl ⟨rfl, rfl⟩ (Nat.le_of_ble_eq_true rfl) ?_
        have ez : (7 : Nat) = sp_ln 0 n k f lo hi s i := by rw [eln, sp_draw_0]
        have e9 : (sp_sd 0 n k f lo hi s (i + 1)) = (sp_sd 0 n k f lo hi s i) := by rw [esd, sp_draw_0]
        rw [ez]
        rw [e9] at tail
        exact tail
    ·
      subst e
      have z9 : (pmX h xi (vp_updL xl 3 (sp_sd 2 n k f lo hi s i)) xc (va_up XA (37 + 2 * r) (pm_fc (fun i => nI ((sp_ln 2 n k f lo hi s) i)) (pm_fl (nI 0) (XA (37 + 2 * r)) 64) i)) XB).2 (68 + j) = _ := (pmX_ne (by omega)).trans z
      refine r_iload_8 d_X9_record_56 ?_
      refine r_iload_5 d_X9_record_58 ?_
      refine r_icmp_ge d_X9_record_60 (fun c60 => ?_) (fun c60 => ?_)
      · -- taken at 60
        have c60 : m ≤ i := (nI_leI (a := m) (b := i) (by omega) (by omega)).mp c60
        exfalso; omega
      · -- not taken at 60
        have c60 : ¬ m ≤ i := fun zz9 => c60 ((nI_leI (a := m) (b := i) (by omega) (by omega)).mpr zz9)
        refine r_aload_6 d_X9_record_63 ?_
        refine r_get d_X9_record_65 s0_bytes (xr_o hr) rfl ?_
        refine r_iload_8 d_X9_record_68 ?_
        refine r_aload_7 d_X9_record_70 ?_
        refine r_aload_0 d_X9_record_72 ?_
        refine r_get d_X9_record_73 s9_seed rfl rfl ?_
        refine r_V1 d_X9_record_76_2 (c_X2_castLine (s := (sp_sd 2 n k f lo hi s i)) rfl) z9 rfl rfl ⟨rfl, rfl⟩ (Nat.le_of_ble_eq_true rfl) ?_
        have ez : sp_coin (sp_un (sp_seed (sp_sd 2 n k f lo hi s i)) 8) = sp_ln 2 n k f lo hi s i := by rw [eln, sp_draw_2]
        have e9 : sp_seed (sp_sd 2 n k f lo hi s i) = (sp_sd 2 n k f lo hi s (i + 1)) := by rw [esd, sp_draw_2]
        rw [ez, e9, pmX_12, hll]
        exact tail
    ·
      subst e
      have z9 : (pmX h xi (vp_updL xl 3 (sp_sd 1 n k f lo hi s i)) xc (va_up XA (37 + 2 * r) (pm_fc (fun i => nI ((sp_ln 1 n k f lo hi s) i)) (pm_fl (nI 0) (XA (37 + 2 * r)) 64) i)) XB).2 (68 + j) = _ := (pmX_ne (by omega)).trans z
      refine r_iload_8 d_X9_record_56 ?_
      refine r_iload_5 d_X9_record_58 ?_
      refine r_icmp_ge d_X9_record_60 (fun c60 => ?_) (fun c60 => ?_)
      · -- taken at 60
        have c60 : m ≤ i := (nI_leI (a := m) (b := i) (by omega) (by omega)).mp c60
        exfalso; omega
      · -- not taken at 60
        have c60 : ¬ m ≤ i := fun zz9 => c60 ((nI_leI (a := m) (b := i) (by omega) (by omega)).mpr zz9)
        refine r_aload_6 d_X9_record_63 ?_
        refine r_get d_X9_record_65 s0_bytes (xr_o hr) rfl ?_
        refine r_iload_8 d_X9_record_68 ?_
        refine r_aload_7 d_X9_record_70 ?_
        refine r_aload_0 d_X9_record_72 ?_
        refine r_get d_X9_record_73 s9_seed rfl rfl ?_
        refine r_V1 d_X9_record_76_6 (c_X6_castLine (s := (sp_sd 1 n k f lo hi s i)) (Or.inl ⟨z9, e1, e2⟩) e3 (by omega) rfl) z9 rfl rfl ⟨rfl, rfl⟩ (Nat.le_of_ble_eq_true rfl) ?_
        have ez : (sp_cl k f lo hi 3 n (sp_sd 1 n k f lo hi s i)).1 / k = sp_ln 1 n k f lo hi s i := by rw [eln, sp_draw_1 (by decide)]
        have e9 : (sp_cl k f lo hi 3 n (sp_sd 1 n k f lo hi s i)).2 = (sp_sd 1 n k f lo hi s (i + 1)) := by rw [esd, sp_draw_1 (by decide)]
        rw [ez, e9, pmX_12, hll]
        exact tail
    ·
      subst e
      have z9 : (pmX h xi (vp_updL xl 3 (sp_sd 3 n k f lo hi s i)) xc (va_up XA (37 + 2 * r) (pm_fc (fun i => nI ((sp_ln 3 n k f lo hi s) i)) (pm_fl (nI 0) (XA (37 + 2 * r)) 64) i)) XB).2 (68 + j) = _ := (pmX_ne (by omega)).trans z
      refine r_iload_8 d_X9_record_56 ?_
      refine r_iload_5 d_X9_record_58 ?_
      refine r_icmp_ge d_X9_record_60 (fun c60 => ?_) (fun c60 => ?_)
      · -- taken at 60
        have c60 : m ≤ i := (nI_leI (a := m) (b := i) (by omega) (by omega)).mp c60
        exfalso; omega
      · -- not taken at 60
        have c60 : ¬ m ≤ i := fun zz9 => c60 ((nI_leI (a := m) (b := i) (by omega) (by omega)).mpr zz9)
        refine r_aload_6 d_X9_record_63 ?_
        refine r_get d_X9_record_65 s0_bytes (xr_o hr) rfl ?_
        refine r_iload_8 d_X9_record_68 ?_
        refine r_aload_7 d_X9_record_70 ?_
        refine r_aload_0 d_X9_record_72 ?_
        refine r_get d_X9_record_73 s9_seed rfl rfl ?_
        refine r_V1 d_X9_record_76_7 (c_X6_castLine (s := (sp_sd 3 n k f lo hi s i)) (Or.inr z9) e1 (by omega) rfl) z9 rfl rfl ⟨rfl, rfl⟩ (Nat.le_of_ble_eq_true rfl) ?_
        have ez : (sp_cl k f lo hi 3 n (sp_sd 3 n k f lo hi s i)).1 / k = sp_ln 3 n k f lo hi s i := by rw [eln, sp_draw_1 (by decide)]
        have e9 : (sp_cl k f lo hi 3 n (sp_sd 3 n k f lo hi s i)).2 = (sp_sd 3 n k f lo hi s (i + 1)) := by rw [esd, sp_draw_1 (by decide)]
        rw [ez, e9, pmX_12, hll]
        exact tail
set_option maxRecDepth 10000 in
set_option maxHeartbeats 4000000 in
theorem c_X9_record {h : pm_H} {xi : Nat → Int32} {xl : Nat → Int64} {xc : Nat → Option Nat} {XA : Nat → Nat → Int32} {XB : Nat → Nat → Int64} {r j m : Nat} {s : Int64} {cn : Nat} {C : Nat → sp_Cs} (hCC : x_CC h xi xc cn C) (hr : r < 4) (hj : j < cn) (hm : m ≤ 64) : pm_Cv e_X9_record [.ref 1, .int (nI r), .int (nI j), .long s, .int (nI m)] (pmX h xi xl xc XA XB) (.int (nI m)) (pmX h (upd xi (3 + r) (nI m)) (vp_updL xl 3 (sp_sd (C j).1 (C j).2.1 (C j).2.2.1 (C j).2.2.2.1 (C j).2.2.2.2.1 (C j).2.2.2.2.2 s m)) xc (va_up XA (37 + 2 * r) (pm_fc (fun i => nI (sp_ln (C j).1 (C j).2.1 (C j).2.2.1 (C j).2.2.2.1 (C j).2.2.2.2.1 (C j).2.2.2.2.2 s i)) (pm_fl (nI 0) (XA (37 + 2 * r)) 64) m)) XB) := by
  have hcs := (hCC.2.2 j hj).2
  refine pm_enter rfl (Nat.le_of_ble_eq_true rfl) ?_
  show pm_V e_X9_record 0 [some (.ref 1), some (.int (nI r)), some (.int (nI j)), some (.long s), none, some (.int (nI m)), none, none, none] [] (pmX h xi xl xc XA XB) (0, 0) _
  refine r_aload_0 d_X9_record_0 ?_
  refine r_iload_1 d_X9_record_1 ?_
  refine r_V1 d_X9_record_2 (c_X9_rowAt hr) rfl rfl rfl ⟨rfl, rfl⟩ (Nat.le_of_ble_eq_true rfl) ?_
  refine r_astore_6 d_X9_record_5 (Nat.le_of_ble_eq_true rfl) (fun w hw => by cases hw <;> rfl) ?_
  refine r_aload_0 d_X9_record_7 ?_
  refine r_iload_2 d_X9_record_8 ?_
  refine r_V1 d_X9_record_9 (c_X9_casterAt hCC hj) rfl rfl rfl ⟨rfl, rfl⟩ (Nat.le_of_ble_eq_true rfl) ?_
  refine r_astore_7 d_X9_record_12 (Nat.le_of_ble_eq_true rfl) (fun w hw => by cases hw <;> rfl) ?_
  refine r_aload_6 d_X9_record_14 ?_
  refine r_ifnull d_X9_record_16 ?_
  refine r_aload_7 d_X9_record_19 ?_
  refine r_ifnull d_X9_record_21 ?_
  refine r_iload_5 d_X9_record_24 ?_
  refine r_if_lt d_X9_record_26 (fun c26 => ?_) (fun c26 => ?_)
  · -- taken at 26
    have c26 : m < 0 := (nI_ltI (a := m) (b := 0) (by omega) (by omega)).mp c26
    exfalso; omega
  · -- not taken at 26
    have c26 : ¬ m < 0 := fun zz9 => c26 ((nI_ltI (a := m) (b := 0) (by omega) (by omega)).mpr zz9)
    refine r_iload_5 d_X9_record_29 ?_
    refine r_push (v := nI 64) d_X9_record_31 ?_
    refine r_icmp_le d_X9_record_33 (fun c33 => ?_) (fun c33 => ?_)
    · -- taken at 33
      have c33 : m ≤ 64 := (nI_leI (a := m) (b := 64) (by omega) (by omega)).mp c33
      refine r_aload_6 d_X9_record_38 ?_
      refine r_iload_5 d_X9_record_40 ?_
      refine r_V1v d_X9_record_42 (c_X0_begin (by omega) (xr_o hr) (xr_l hr)) (xr_o hr) rfl rfl ⟨rfl, rfl⟩ (Nat.le_of_ble_eq_true rfl) ?_
      rw [xr_up hr, xr_sz hr]
      refine r_aload_0 d_X9_record_45 ?_
      refine r_get d_X9_record_46 s9_seed rfl rfl ?_
      refine r_lload_3 d_X9_record_49 ?_
      refine r_V1v d_X9_record_50 (c_X5_begin (s := xl 3) rfl) rfl rfl rfl ⟨rfl, rfl⟩ (Nat.le_of_ble_eq_true rfl) ?_
      rw [pmX_12]
      refine r_push (v := nI 0) d_X9_record_53 ?_
      refine r_istore_8 d_X9_record_54 (Nat.le_of_ble_eq_true rfl) (fun w hw => by cases hw <;> rfl) ?_
      have K := lp_X9_record (h := h) (xi := upd xi (3 + r) (nI m)) (xl := xl) (xc := xc) (XA := XA) (XB := XB) (s := s) (b := (0, 0)) (F := fun v9 h1 => v9 = some (.int (nI m)) ∧ h1 = pmX h (upd xi (3 + r) (nI m)) (vp_updL xl 3 (sp_sd (C j).1 (C j).2.1 (C j).2.2.1 (C j).2.2.2.1 (C j).2.2.2.2.1 (C j).2.2.2.2.2 s m)) xc (va_up XA (37 + 2 * r) (pm_fc (fun i => nI (sp_ln (C j).1 (C j).2.1 (C j).2.2.1 (C j).2.2.2.1 (C j).2.2.2.2.1 (C j).2.2.2.2.2 s i)) (pm_fl (nI 0) (XA (37 + 2 * r)) 64) m)) XB) hr hm hcs (r_iload_5 d_X9_record_87 (r_ireturn d_X9_record_89 ⟨_, rfl, rfl⟩ ⟨rfl, rfl⟩)) m 0 (by omega)
      rw [show sp_sd (C j).1 (C j).2.1 (C j).2.2.1 (C j).2.2.2.1 (C j).2.2.2.2.1 (C j).2.2.2.2.2 s 0 = s by rw [sp_sd], pm_fc_0] at K
      exact K
    · -- not taken at 33
      have c33 : ¬ m ≤ 64 := fun zz9 => c33 ((nI_leI (a := m) (b := 64) (by omega) (by omega)).mpr zz9)
      exfalso; omega
