theorem x_rp {XA : Nat → Nat → Int32} {r z : Nat} : ∀ j, j < 31 → (va_up XA 18 (pm_fc (fun j => nI (1000000 * sp_cv (XA (37 + 2 * r)) j z / (sp_cn (XA (37 + 2 * r)) z))) (pm_fc (fun j => nI (sp_cv (XA (37 + 2 * r)) j z)) (XA 18) 31) 31)) 18 j = nI (sp_rp (fun j => sp_cv (XA (37 + 2 * r)) j z) (sp_cn (XA (37 + 2 * r)) z) j) := fun j hj => pm_fc_in (p := fun j => nI (1000000 * sp_cv (XA (37 + 2 * r)) j z / (sp_cn (XA (37 + 2 * r)) z))) (f := pm_fc (fun j => nI (sp_cv (XA (37 + 2 * r)) j z)) (XA 18) 31) hj
theorem x_rpl {v : Nat → Int32} {z : Nat} (h : 0 < sp_cn v z) : ∀ j, j < 31 → sp_rp (fun j => sp_cv v j z) (sp_cn v z) j ≤ 1000000 := fun j hj => by
  have h1 := sp_sum_ge (f := fun j => sp_cv v j z) (k := j) (n := 31) hj
  rw [sp_cv_sum] at h1
  exact Nat.div_le_of_le_mul (by rw [Nat.mul_comm]; exact Nat.mul_le_mul_right _ h1)
theorem x_Wle {W : Nat → Nat} {T : (Nat → Nat) × Nat} (hag : sp_ag 31 W T.1) (h : sp_sum T.1 31 = T.2) : ∀ j, j < 31 → W j ≤ T.2 := fun j hj => by
  rw [hag j hj, ← h]; exact sp_sum_ge hj
theorem x_offe {W : Nat → Nat} {q : sp_Cs} {cv : Nat → Nat} {ct : Nat} (hag : sp_ag 31 W (sp_Wc q).1) : sp_ad (fun j => 1000000 * W j / (sp_Wc q).2) (sp_rp cv ct) 31 = sp_off cv ct q := sp_ad_cg (fun j hj => by show 1000000 * W j / (sp_Wc q).2 = 1000000 * (sp_Wc q).1 j / (sp_Wc q).2; rw [hag j hj]) (fun j hj => rfl)
theorem x_kk {h : pm_H} {a kd n k f lo hi : Nat} (hcs : pm_cs h a kd n k f lo hi) : sp_kk kd n k f lo hi := by
  rcases hcs with ⟨e, z⟩ | ⟨e, z⟩ | ⟨e, e1, e2, ok, z⟩ | ⟨e, ok, z⟩
  · exact Or.inl e
  · exact Or.inr (Or.inl e)
  · exact Or.inr (Or.inr ⟨Or.inl e, ok⟩)
  · exact Or.inr (Or.inr ⟨Or.inr e, ok⟩)
def x_nr (off : Nat → Nat) : Nat → Nat × Nat
  | 0 => (0, 2000001)
  | i + 1 => sp_nr off i
theorem x_nr_s {off : Nat → Nat} (h0 : off 0 ≤ 2000000) : ∀ i, x_nr off (i + 1) = if off i < (x_nr off i).2 then (i, off i) else x_nr off i
  | 0 => by
    show (0, off 0) = if off 0 < 2000001 then (0, off 0) else (0, 2000001)
    rw [if_pos (by omega)]
  | i + 1 => rfl
theorem x_nr_le {off : Nat → Nat} : ∀ {i : Nat}, (∀ j, j < i → off j ≤ 2000000) → (x_nr off i).2 ≤ 2000001
  | 0, _ => Nat.le_refl _
  | i + 1, h => Nat.le_trans (sp_nr_le (M := 2000000) (fun j hj => h j (by omega))) (by decide)
def x_o1 (XA X1 : Nat → Nat → Int32) : Prop := ∀ q, q ≠ 17 → X1 q = XA q
def x_l4 (xl x1 : Nat → Int64) : Prop := ∀ q, q ≠ 4 → x1 q = xl q
theorem x_o1_s {XA X1 : Nat → Nat → Int32} {f : Nat → Int32} (h : x_o1 XA X1) : x_o1 XA (va_up X1 17 f) := fun q hq => (if_neg hq).trans (h q hq)
theorem x_l4_s {xl x1 : Nat → Int64} {x : Int64} (h : x_l4 xl x1) : x_l4 xl (vp_updL x1 4 x) := fun q hq => (if_neg hq).trans (h q hq)
theorem x_ade {W q : Nat → Nat} {T : (Nat → Nat) × Nat} (hag : sp_ag 31 W T.1) : sp_ad (fun j => 1000000 * W j / T.2) q 31 = sp_ad (fun j => 1000000 * T.1 j / T.2) q 31 := sp_ad_cg (fun j hj => by show 1000000 * W j / T.2 = 1000000 * T.1 j / T.2; rw [hag j hj]) (fun j hj => rfl)
set_option maxRecDepth 10000 in
set_option maxHeartbeats 4000000 in
theorem c_X9_offOf {h : pm_H} {xi : Nat → Int32} {xl : Nat → Int64} {xc : Nat → Option Nat} {XA : Nat → Nat → Int32} {XB : Nat → Nat → Int64} {j kd n k f lo hi : Nat} {q : Nat → Nat} (hcs : pm_cs h (68 + j) kd n k f lo hi) (hq : ∀ j, j < 31 → XA 18 j = nI (q j)) (hqs : ∀ j, j < 31 → q j ≤ 1000000) : pm_Cl e_X9_offOf [.ref 1, .ref (68 + j)] (pmX h xi xl xc XA XB) (fun v9 h1 => v9 = some (.int (nI (sp_ad (fun j => 1000000 * (sp_Wc (kd, n, k, f, lo, hi)).1 j / (sp_Wc (kd, n, k, f, lo, hi)).2) q 31))) ∧ ∃ x g X1, h1 = pmX h xi (vp_updL xl 4 x) xc (va_up XA 17 g) X1) := by
  obtain ⟨w1, w2, w3⟩ := x_Wc hcs
  refine pm_enter rfl (Nat.le_of_ble_eq_true rfl) ?_
  show pm_V e_X9_offOf 0 [some (.ref 1), some (.ref (68 + j))] [] (pmX h xi xl xc XA XB) (0, 0) _
  refine r_aload_1 d_X9_offOf_0 ?_
  refine r_ifnonnull d_X9_offOf_1 ?_
  refine r_aload_1 d_X9_offOf_8 ?_
  refine r_aload_0 d_X9_offOf_9 ?_
  refine r_get d_X9_offOf_10 s9_odds rfl rfl ?_
  refine w_X9_offOf_13 hcs (fun W Hp Nx hag => ?_)
  refine r_aload_0 d_X9_offOf_16 ?_
  refine r_V0 d_X9_offOf_17 (c_X9_weighedDiffer (q := q) ⟨w1, w2⟩ (x_Wle hag w3) hq hqs) rfl rfl rfl ⟨rfl, rfl⟩ (Nat.le_of_ble_eq_true rfl) ?_
  rw [x_ade hag, pmX_O]
  refine r_ireturn d_X9_offOf_20 ⟨_, rfl, rfl⟩ ?_
  exact ⟨rfl, _, _, _, rfl⟩
set_option maxRecDepth 10000 in
set_option maxHeartbeats 4000000 in
theorem c_X9_off_1 {h : pm_H} {xi : Nat → Int32} {xl : Nat → Int64} {xc : Nat → Option Nat} {XA : Nat → Nat → Int32} {XB : Nat → Nat → Int64} {r c : Int32} {cn : Nat} {C : Nat → sp_Cs} (hCC : x_CC h xi xc cn C) (hr : sp_in r 0 3 = false) (hci : pm_ci c cn = none) : pm_Cv e_X9_off [.ref 1, .int r, .int c] (pmX h xi xl xc XA XB) (.int (-1)) (pmX h xi xl xc XA XB) := by
  refine pm_enter rfl (Nat.le_of_ble_eq_true rfl) ?_
  show pm_V e_X9_off 0 [some (.ref 1), some (.int r), some (.int c), none, none] [] (pmX h xi xl xc XA XB) (0, 0) _
  refine r_aload_0 d_X9_off_0 ?_
  refine r_iload_1 d_X9_off_1 ?_
  refine r_V1 d_X9_off_2 (c_X9_rowAt_no hr) rfl rfl rfl ⟨rfl, rfl⟩ (Nat.le_of_ble_eq_true rfl) ?_
  refine r_astoreN_3 d_X9_off_5 (Nat.le_of_ble_eq_true rfl) (fun w hw => by cases hw <;> rfl) ?_
  refine r_aload_0 d_X9_off_6 ?_
  refine r_iload_2 d_X9_off_7 ?_
  refine r_V1 d_X9_off_8 (c_X9_casterAt_no hCC.1 hci) rfl rfl rfl ⟨rfl, rfl⟩ (Nat.le_of_ble_eq_true rfl) ?_
  refine r_astoreN_4 d_X9_off_11 (Nat.le_of_ble_eq_true rfl) (fun w hw => by cases hw <;> rfl) ?_
  refine r_aloadN_3 d_X9_off_13 ?_
  refine r_ifnullN d_X9_off_14 ?_
  refine r_push d_X9_off_22 ?_
  refine r_ireturn d_X9_off_23 ⟨_, rfl, rfl⟩ ?_
  exact ⟨rfl, rfl⟩
set_option maxRecDepth 10000 in
set_option maxHeartbeats 4000000 in
theorem c_X9_off_2 {h : pm_H} {xi : Nat → Int32} {xl : Nat → Int64} {xc : Nat → Option Nat} {XA : Nat → Nat → Int32} {XB : Nat → Nat → Int64} {r : Int32} {j : Nat} {cn : Nat} {C : Nat → sp_Cs} (hCC : x_CC h xi xc cn C) (hr : sp_in r 0 3 = false) (hj : j < cn) : pm_Cv e_X9_off [.ref 1, .int r, .int (nI j)] (pmX h xi xl xc XA XB) (.int (-1)) (pmX h xi xl xc XA XB) := by
  refine pm_enter rfl (Nat.le_of_ble_eq_true rfl) ?_
  show pm_V e_X9_off 0 [some (.ref 1), some (.int r), some (.int (nI j)), none, none] [] (pmX h xi xl xc XA XB) (0, 0) _
  refine r_aload_0 d_X9_off_0 ?_
  refine r_iload_1 d_X9_off_1 ?_
  refine r_V1 d_X9_off_2 (c_X9_rowAt_no hr) rfl rfl rfl ⟨rfl, rfl⟩ (Nat.le_of_ble_eq_true rfl) ?_
  refine r_astoreN_3 d_X9_off_5 (Nat.le_of_ble_eq_true rfl) (fun w hw => by cases hw <;> rfl) ?_
  refine r_aload_0 d_X9_off_6 ?_
  refine r_iload_2 d_X9_off_7 ?_
  refine r_V1 d_X9_off_8 (c_X9_casterAt hCC hj) rfl rfl rfl ⟨rfl, rfl⟩ (Nat.le_of_ble_eq_true rfl) ?_
  refine r_astore_4 d_X9_off_11 (Nat.le_of_ble_eq_true rfl) (fun w hw => by cases hw <;> rfl) ?_
  refine r_aloadN_3 d_X9_off_13 ?_
  refine r_ifnullN d_X9_off_14 ?_
  refine r_push d_X9_off_22 ?_
  refine r_ireturn d_X9_off_23 ⟨_, rfl, rfl⟩ ?_
  exact ⟨rfl, rfl⟩
set_option maxRecDepth 10000 in
set_option maxHeartbeats 4000000 in
theorem c_X9_off_3 {h : pm_H} {xi : Nat → Int32} {xl : Nat → Int64} {xc : Nat → Option Nat} {XA : Nat → Nat → Int32} {XB : Nat → Nat → Int64} {r : Nat} {c : Int32} {cn : Nat} {C : Nat → sp_Cs} (hCC : x_CC h xi xc cn C) (hr : r < 4) (hci : pm_ci c cn = none) : pm_Cv e_X9_off [.ref 1, .int (nI r), .int c] (pmX h xi xl xc XA XB) (.int (-1)) (pmX h xi xl xc XA XB) := by
  refine pm_enter rfl (Nat.le_of_ble_eq_true rfl) ?_
  show pm_V e_X9_off 0 [some (.ref 1), some (.int (nI r)), some (.int c), none, none] [] (pmX h xi xl xc XA XB) (0, 0) _
  refine r_aload_0 d_X9_off_0 ?_
  refine r_iload_1 d_X9_off_1 ?_
  refine r_V1 d_X9_off_2 (c_X9_rowAt hr) rfl rfl rfl ⟨rfl, rfl⟩ (Nat.le_of_ble_eq_true rfl) ?_
  refine r_astore_3 d_X9_off_5 (Nat.le_of_ble_eq_true rfl) (fun w hw => by cases hw <;> rfl) ?_
  refine r_aload_0 d_X9_off_6 ?_
  refine r_iload_2 d_X9_off_7 ?_
  refine r_V1 d_X9_off_8 (c_X9_casterAt_no hCC.1 hci) rfl rfl rfl ⟨rfl, rfl⟩ (Nat.le_of_ble_eq_true rfl) ?_
  refine r_astoreN_4 d_X9_off_11 (Nat.le_of_ble_eq_true rfl) (fun w hw => by cases hw <;> rfl) ?_
  refine r_aload_3 d_X9_off_13 ?_
  refine r_ifnull d_X9_off_14 ?_
  refine r_aloadN_4 d_X9_off_17 ?_
  refine r_ifnonnullN d_X9_off_19 ?_
  refine r_push d_X9_off_22 ?_
  refine r_ireturn d_X9_off_23 ⟨_, rfl, rfl⟩ ?_
  exact ⟨rfl, rfl⟩
set_option maxRecDepth 10000 in
set_option maxHeartbeats 4000000 in
theorem c_X9_off_no {h : pm_H} {xi : Nat → Int32} {xl : Nat → Int64} {xc : Nat → Option Nat} {XA : Nat → Nat → Int32} {XB : Nat → Nat → Int64} {r j : Nat} {cn : Nat} {C : Nat → sp_Cs} (hCC : x_CC h xi xc cn C) (hr : r < 4) (hj : j < cn) (hz : xi (3 + r) = -1) : pm_Cv e_X9_off [.ref 1, .int (nI r), .int (nI j)] (pmX h xi xl xc XA XB) (.int (-3)) (x_meet h xi xl xc XA XB 1) := by
  refine pm_enter rfl (Nat.le_of_ble_eq_true rfl) ?_
  show pm_V e_X9_off 0 [some (.ref 1), some (.int (nI r)), some (.int (nI j)), none, none] [] (pmX h xi xl xc XA XB) (0, 0) _
  refine r_aload_0 d_X9_off_0 ?_
  refine r_iload_1 d_X9_off_1 ?_
  refine r_V1 d_X9_off_2 (c_X9_rowAt hr) rfl rfl rfl ⟨rfl, rfl⟩ (Nat.le_of_ble_eq_true rfl) ?_
  refine r_astore_3 d_X9_off_5 (Nat.le_of_ble_eq_true rfl) (fun w hw => by cases hw <;> rfl) ?_
  refine r_aload_0 d_X9_off_6 ?_
  refine r_iload_2 d_X9_off_7 ?_
  refine r_V1 d_X9_off_8 (c_X9_casterAt hCC hj) rfl rfl rfl ⟨rfl, rfl⟩ (Nat.le_of_ble_eq_true rfl) ?_
  refine r_astore_4 d_X9_off_11 (Nat.le_of_ble_eq_true rfl) (fun w hw => by cases hw <;> rfl) ?_
  refine r_aload_3 d_X9_off_13 ?_
  refine r_ifnull d_X9_off_14 ?_
  refine r_aload_4 d_X9_off_17 ?_
  refine r_ifnonnull d_X9_off_19 ?_
  refine r_aload_3 d_X9_off_24 ?_
  refine r_V0 d_X9_off_25 (c_X0_isThere (x_row hr hz)) (x_row hr hz) rfl rfl ⟨rfl, rfl⟩ (Nat.le_of_ble_eq_true rfl) ?_
  rw [show decide (0 ≤ (-1 : Int32)) = false from rfl]
  change pm_V _ _ _ (.int (nI 0) :: _) _ _ _
  refine r_if_ne d_X9_off_28 (fun c28 => absurd (by decide) c28) (fun c28 => ?_)
  clear c28
  refine r_aload_0 d_X9_off_31 ?_
  refine r_push (v := nI 1) d_X9_off_32 ?_
  refine r_V1 d_X9_off_33 (c_X9_found (w := 1) (by decide)) rfl rfl rfl ⟨rfl, rfl⟩ (Nat.le_of_ble_eq_true rfl) ?_
  refine r_ireturn d_X9_off_36 ⟨_, rfl, rfl⟩ ?_
  exact ⟨rfl, rfl⟩
set_option maxRecDepth 10000 in
set_option maxHeartbeats 4000000 in
theorem c_X9_off_nought {h : pm_H} {xi : Nat → Int32} {xl : Nat → Int64} {xc : Nat → Option Nat} {XA : Nat → Nat → Int32} {XB : Nat → Nat → Int64} {r j : Nat} {cn : Nat} {C : Nat → sp_Cs} (hCC : x_CC h xi xc cn C) (hr : r < 4) (hj : j < cn) {z : Nat} (hz : xi (3 + r) = nI z) (hz64 : z ≤ 64) (hct : (sp_cn (XA (37 + 2 * r)) z) = 0) : pm_Cv e_X9_off [.ref 1, .int (nI r), .int (nI j)] (pmX h xi xl xc XA XB) (.int (-3)) (x_meet h xi xl xc (va_up XA 18 (pm_fc (fun j => nI (sp_cv (XA (37 + 2 * r)) j z)) (XA 18) 31)) XB 4) := by
  refine pm_enter rfl (Nat.le_of_ble_eq_true rfl) ?_
  show pm_V e_X9_off 0 [some (.ref 1), some (.int (nI r)), some (.int (nI j)), none, none] [] (pmX h xi xl xc XA XB) (0, 0) _
  refine r_aload_0 d_X9_off_0 ?_
  refine r_iload_1 d_X9_off_1 ?_
  refine r_V1 d_X9_off_2 (c_X9_rowAt hr) rfl rfl rfl ⟨rfl, rfl⟩ (Nat.le_of_ble_eq_true rfl) ?_
  refine r_astore_3 d_X9_off_5 (Nat.le_of_ble_eq_true rfl) (fun w hw => by cases hw <;> rfl) ?_
  refine r_aload_0 d_X9_off_6 ?_
  refine r_iload_2 d_X9_off_7 ?_
  refine r_V1 d_X9_off_8 (c_X9_casterAt hCC hj) rfl rfl rfl ⟨rfl, rfl⟩ (Nat.le_of_ble_eq_true rfl) ?_
  refine r_astore_4 d_X9_off_11 (Nat.le_of_ble_eq_true rfl) (fun w hw => by cases hw <;> rfl) ?_
  refine r_aload_3 d_X9_off_13 ?_
  refine r_ifnull d_X9_off_14 ?_
  refine r_aload_4 d_X9_off_17 ?_
  refine r_ifnonnull d_X9_off_19 ?_
  refine r_aload_3 d_X9_off_24 ?_
  refine r_V0 d_X9_off_25 (c_X0_isThere (x_row hr hz)) (x_row hr hz) rfl rfl ⟨rfl, rfl⟩ (Nat.le_of_ble_eq_true rfl) ?_
  rw [x_th hz64]
  change pm_V _ _ _ (.int (nI 1) :: _) _ _ _
  refine r_if_ne d_X9_off_28 (fun c28 => ?_) (fun c28 => absurd c28 (by decide))
  clear c28
  refine r_aload_3 d_X9_off_37 ?_
  refine r_aload_0 d_X9_off_38 ?_
  refine r_get d_X9_off_39 s9_otherParts rfl rfl ?_
  refine r_V1p d_X9_off_42 (c_X0_partsInto (f := XA 18) (x_row hr hz) (xr_l hr) hz64 (by omega) (by omega) rfl) (x_row hr hz) rfl rfl ⟨rfl, rfl⟩ (Nat.le_of_ble_eq_true rfl) ?_
  rintro v9 h9 (⟨-, rfl, rfl⟩ | ⟨e0, -, -⟩)
  rotate_left
  · exfalso; omega
  rw [pmX_18]
  change pm_V _ _ _ (.int (nI 0) :: _) _ _ _
  refine r_if_ne d_X9_off_45 (fun c45 => absurd (by decide) c45) (fun c45 => ?_)
  clear c45
  refine r_aload_0 d_X9_off_48 ?_
  refine r_push (v := nI 4) d_X9_off_49 ?_
  refine r_V1 d_X9_off_50 (c_X9_found (w := 4) (by decide)) rfl rfl rfl ⟨rfl, rfl⟩ (Nat.le_of_ble_eq_true rfl) ?_
  refine r_ireturn d_X9_off_53 ⟨_, rfl, rfl⟩ ?_
  exact ⟨rfl, rfl⟩
set_option maxRecDepth 10000 in
set_option maxHeartbeats 4000000 in
theorem c_X9_off {h : pm_H} {xi : Nat → Int32} {xl : Nat → Int64} {xc : Nat → Option Nat} {XA : Nat → Nat → Int32} {XB : Nat → Nat → Int64} {r j : Nat} {cn : Nat} {C : Nat → sp_Cs} (hCC : x_CC h xi xc cn C) (hr : r < 4) (hj : j < cn) {z : Nat} (hz : xi (3 + r) = nI z) (hz64 : z ≤ 64) (hct : 0 < (sp_cn (XA (37 + 2 * r)) z)) : pm_Cl e_X9_off [.ref 1, .int (nI r), .int (nI j)] (pmX h xi xl xc XA XB) (fun v9 h1 => v9 = some (.int (nI 1)) ∧ ∃ x f g X1, h1 = pmX h xi (vp_updL (vp_updL xl 4 x) 0 (lN (sp_off (fun j => sp_cv (XA (37 + 2 * r)) j z) (sp_cn (XA (37 + 2 * r)) z) (C j)))) xc (va_up (va_up XA 18 f) 17 g) X1) := by
  have hA : pm_Cv e_X9_casterAt [.ref 1, .int (nI j)] (pmX h xi xl xc XA XB) (.ref (68 + j)) (pmX h xi xl xc XA XB) := c_X9_casterAt hCC hj
  have hcs := (hCC.2.2 j hj).2
  generalize C j = q9 at hcs ⊢
  obtain ⟨kd, n, k, f, lo, hi⟩ := q9
  change pm_cs h (68 + j) kd n k f lo hi at hcs
  obtain ⟨w1, w2, w3⟩ := x_Wc hcs
  have hol := sp_off_le (cv := (fun j => sp_cv (XA (37 + 2 * r)) j z)) (ct := (sp_cn (XA (37 + 2 * r)) z)) (q := (kd, n, k, f, lo, hi)) (x_kk hcs) hct (sp_cv_sum _ _)
  refine pm_enter rfl (Nat.le_of_ble_eq_true rfl) ?_
  show pm_V e_X9_off 0 [some (.ref 1), some (.int (nI r)), some (.int (nI j)), none, none] [] (pmX h xi xl xc XA XB) (0, 0) _
  refine r_aload_0 d_X9_off_0 ?_
  refine r_iload_1 d_X9_off_1 ?_
  refine r_V1 d_X9_off_2 (c_X9_rowAt hr) rfl rfl rfl ⟨rfl, rfl⟩ (Nat.le_of_ble_eq_true rfl) ?_
  refine r_astore_3 d_X9_off_5 (Nat.le_of_ble_eq_true rfl) (fun w hw => by cases hw <;> rfl) ?_
  refine r_aload_0 d_X9_off_6 ?_
  refine r_iload_2 d_X9_off_7 ?_
  refine r_V1 d_X9_off_8 hA rfl rfl rfl ⟨rfl, rfl⟩ (Nat.le_of_ble_eq_true rfl) ?_
  refine r_astore_4 d_X9_off_11 (Nat.le_of_ble_eq_true rfl) (fun w hw => by cases hw <;> rfl) ?_
  refine r_aload_3 d_X9_off_13 ?_
  refine r_ifnull d_X9_off_14 ?_
  refine r_aload_4 d_X9_off_17 ?_
  refine r_ifnonnull d_X9_off_19 ?_
  refine r_aload_3 d_X9_off_24 ?_
  refine r_V0 d_X9_off_25 (c_X0_isThere (x_row hr hz)) (x_row hr hz) rfl rfl ⟨rfl, rfl⟩ (Nat.le_of_ble_eq_true rfl) ?_
  rw [x_th hz64]
  change pm_V _ _ _ (.int (nI 1) :: _) _ _ _
  refine r_if_ne d_X9_off_28 (fun c28 => ?_) (fun c28 => absurd c28 (by decide))
  clear c28
  refine r_aload_3 d_X9_off_37 ?_
  refine r_aload_0 d_X9_off_38 ?_
  refine r_get d_X9_off_39 s9_otherParts rfl rfl ?_
  refine r_V1p d_X9_off_42 (c_X0_partsInto (f := XA 18) (x_row hr hz) (xr_l hr) hz64 (by omega) (by omega) rfl) (x_row hr hz) rfl rfl ⟨rfl, rfl⟩ (Nat.le_of_ble_eq_true rfl) ?_
  rintro v9 h9 (⟨e0, -, -⟩ | ⟨-, rfl, rfl⟩)
  · exfalso; omega
  rw [pmX_18]
  change pm_V _ _ _ (.int (nI 1) :: _) _ _ _
  refine r_if_ne d_X9_off_45 (fun c45 => ?_) (fun c45 => absurd c45 (by decide))
  clear c45
  refine r_aload_0 d_X9_off_54 ?_
  refine r_aload_0 d_X9_off_55 ?_
  refine r_aload_4 d_X9_off_56 ?_
  refine r_V1p d_X9_off_58 (c_X9_offOf (q := sp_rp (fun j => sp_cv (XA (37 + 2 * r)) j z) (sp_cn (XA (37 + 2 * r)) z)) hcs x_rp (x_rpl hct)) rfl rfl rfl ⟨rfl, rfl⟩ (Nat.le_of_ble_eq_true rfl) ?_
  rintro v9 h9 ⟨rfl, x9, g9, Y9, rfl⟩
  change pm_V _ _ _ (.int (nI (sp_off (fun j => sp_cv (XA (37 + 2 * r)) j z) (sp_cn (XA (37 + 2 * r)) z) (kd, n, k, f, lo, hi))) :: _) _ _ _
  refine r_i2l d_X9_off_61 ?_
  rw [nI_l (n := (sp_off (fun j => sp_cv (XA (37 + 2 * r)) j z) (sp_cn (XA (37 + 2 * r)) z) (kd, n, k, f, lo, hi))) (by omega)]
  refine r_put d_X9_off_62 s9_lastAsked rfl (Nat.le_of_ble_eq_true rfl) ⟨rfl, rfl⟩ ?_
  rw [pmX_asked]
  refine r_push (v := nI 1) d_X9_off_65 ?_
  refine r_ireturn d_X9_off_66 ⟨_, rfl, rfl⟩ ?_
  exact ⟨rfl, _, _, _, _, rfl⟩
