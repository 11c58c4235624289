set_option maxRecDepth 10000 in
set_option maxHeartbeats 4000000 in
theorem c_X9_nearest_bad {h : pm_H} {xi : Nat → Int32} {xl : Nat → Int64} {xc : Nat → Option Nat} {XA : Nat → Nat → Int32} {XB : Nat → Nat → Int64} {r : Int32} (hr : sp_in r 0 3 = false) : pm_Cv e_X9_nearest [.ref 1, .int r] (pmX h xi xl xc XA XB) (.int (-1)) (pmX h xi xl xc XA XB) := by
  refine pm_enter rfl (Nat.le_of_ble_eq_true rfl) ?_
  show pm_V e_X9_nearest 0 [some (.ref 1), some (.int r), none, none, none, none, none] [] (pmX h xi xl xc XA XB) (0, 0) _
  refine r_aload_0 d_X9_nearest_0 ?_
  refine r_iload_1 d_X9_nearest_1 ?_
  refine r_V1 d_X9_nearest_2 (c_X9_rowAt_no hr) rfl rfl rfl ⟨rfl, rfl⟩ (Nat.le_of_ble_eq_true rfl) ?_
  refine r_astoreN_2 d_X9_nearest_5 (Nat.le_of_ble_eq_true rfl) (fun w hw => by cases hw <;> rfl) ?_
  refine r_aloadN_2 d_X9_nearest_6 ?_
  refine r_ifnonnullN d_X9_nearest_7 ?_
  refine r_push d_X9_nearest_10 ?_
  refine r_ireturn d_X9_nearest_11 ⟨_, rfl, rfl⟩ ?_
  exact ⟨rfl, rfl⟩
set_option maxRecDepth 10000 in
set_option maxHeartbeats 4000000 in
theorem c_X9_nearest_empty {h : pm_H} {xi : Nat → Int32} {xl : Nat → Int64} {xc : Nat → Option Nat} {XA : Nat → Nat → Int32} {XB : Nat → Nat → Int64} {r : Nat} (hr : r < 4) (hcn : xi 0 = nI 0) : pm_Cv e_X9_nearest [.ref 1, .int (nI r)] (pmX h xi xl xc XA XB) (.int (-4)) (pmX h xi xl xc XA XB) := by
  refine pm_enter rfl (Nat.le_of_ble_eq_true rfl) ?_
  show pm_V e_X9_nearest 0 [some (.ref 1), some (.int (nI r)), none, none, none, none, none] [] (pmX h xi xl xc XA XB) (0, 0) _
  refine r_aload_0 d_X9_nearest_0 ?_
  refine r_iload_1 d_X9_nearest_1 ?_
  refine r_V1 d_X9_nearest_2 (c_X9_rowAt hr) rfl rfl rfl ⟨rfl, rfl⟩ (Nat.le_of_ble_eq_true rfl) ?_
  refine r_astore_2 d_X9_nearest_5 (Nat.le_of_ble_eq_true rfl) (fun w hw => by cases hw <;> rfl) ?_
  refine r_aload_2 d_X9_nearest_6 ?_
  refine r_ifnonnull d_X9_nearest_7 ?_
  refine r_aload_0 d_X9_nearest_12 ?_
  refine r_get d_X9_nearest_13 s9_casterCount rfl rfl ?_
  rw [hcn]
  refine r_if_ne d_X9_nearest_16 (fun c16 => absurd (by decide) c16) (fun c16 => ?_)
  clear c16
  refine r_push d_X9_nearest_19 ?_
  refine r_ireturn d_X9_nearest_21 ⟨_, rfl, rfl⟩ ?_
  exact ⟨rfl, rfl⟩
set_option maxRecDepth 10000 in
set_option maxHeartbeats 4000000 in
theorem c_X9_nearest_no {h : pm_H} {xi : Nat → Int32} {xl : Nat → Int64} {xc : Nat → Option Nat} {XA : Nat → Nat → Int32} {XB : Nat → Nat → Int64} {r cn : Nat} (hcn : xi 0 = nI cn) (hn10 : cn ≤ 10) (h0 : 0 < cn) (hr : r < 4) (hz : xi (3 + r) = -1) : pm_Cv e_X9_nearest [.ref 1, .int (nI r)] (pmX h xi xl xc XA XB) (.int (-3)) (x_meet h xi xl xc XA XB 1) := by
  refine pm_enter rfl (Nat.le_of_ble_eq_true rfl) ?_
  show pm_V e_X9_nearest 0 [some (.ref 1), some (.int (nI r)), none, none, none, none, none] [] (pmX h xi xl xc XA XB) (0, 0) _
  refine r_aload_0 d_X9_nearest_0 ?_
  refine r_iload_1 d_X9_nearest_1 ?_
  refine r_V1 d_X9_nearest_2 (c_X9_rowAt hr) rfl rfl rfl ⟨rfl, rfl⟩ (Nat.le_of_ble_eq_true rfl) ?_
  refine r_astore_2 d_X9_nearest_5 (Nat.le_of_ble_eq_true rfl) (fun w hw => by cases hw <;> rfl) ?_
  refine r_aload_2 d_X9_nearest_6 ?_
  refine r_ifnonnull d_X9_nearest_7 ?_
  refine r_aload_0 d_X9_nearest_12 ?_
  refine r_get d_X9_nearest_13 s9_casterCount rfl rfl ?_
  rw [hcn]
  refine r_if_ne d_X9_nearest_16 (fun c16 => ?_) (fun c16 => ?_)
  · -- taken at 16
    have c16 : ¬ cn = 0 := fun zz9 => c16 ((nI_eq (a := cn) (b := 0) (by omega) (by omega)).mpr zz9)
    refine r_aload_2 d_X9_nearest_22 ?_
    refine r_V0 d_X9_nearest_23 (c_X0_isThere (x_row hr hz)) (x_row hr hz) rfl rfl ⟨rfl, rfl⟩ (Nat.le_of_ble_eq_true rfl) ?_
    rw [show decide (0 ≤ (-1 : Int32)) = false from rfl]
    change pm_V _ _ _ (.int (nI 0) :: _) _ _ _
    refine r_if_ne d_X9_nearest_26 (fun c26 => absurd (by decide) c26) (fun c26 => ?_)
    clear c26
    refine r_aload_0 d_X9_nearest_29 ?_
    refine r_push (v := nI 1) d_X9_nearest_30 ?_
    refine r_V1 d_X9_nearest_31 (c_X9_found (w := 1) (by decide)) rfl rfl rfl ⟨rfl, rfl⟩ (Nat.le_of_ble_eq_true rfl) ?_
    refine r_ireturn d_X9_nearest_34 ⟨_, rfl, rfl⟩ ?_
    exact ⟨rfl, rfl⟩
  · -- not taken at 16
    have c16 : cn = 0 := (nI_eq (a := cn) (b := 0) (by omega) (by omega)).mp c16
    exfalso; omega
set_option maxRecDepth 10000 in
set_option maxHeartbeats 4000000 in
theorem c_X9_nearest_nought {h : pm_H} {xi : Nat → Int32} {xl : Nat → Int64} {xc : Nat → Option Nat} {XA : Nat → Nat → Int32} {XB : Nat → Nat → Int64} {r cn : Nat} (hcn : xi 0 = nI cn) (hn10 : cn ≤ 10) (h0 : 0 < cn) (hr : r < 4) {z : Nat} (hz : xi (3 + r) = nI z) (hz64 : z ≤ 64) (hct : (sp_cn (XA (37 + 2 * r)) z) = 0) : pm_Cv e_X9_nearest [.ref 1, .int (nI r)] (pmX h xi xl xc XA XB) (.int (-3)) (x_meet h xi xl xc (va_up XA 18 (pm_fc (fun j => nI (sp_cv (XA (37 + 2 * r)) j z)) (XA 18) 31)) XB 4) := by
  refine pm_enter rfl (Nat.le_of_ble_eq_true rfl) ?_
  show pm_V e_X9_nearest 0 [some (.ref 1), some (.int (nI r)), none, none, none, none, none] [] (pmX h xi xl xc XA XB) (0, 0) _
  refine r_aload_0 d_X9_nearest_0 ?_
  refine r_iload_1 d_X9_nearest_1 ?_
  refine r_V1 d_X9_nearest_2 (c_X9_rowAt hr) rfl rfl rfl ⟨rfl, rfl⟩ (Nat.le_of_ble_eq_true rfl) ?_
  refine r_astore_2 d_X9_nearest_5 (Nat.le_of_ble_eq_true rfl) (fun w hw => by cases hw <;> rfl) ?_
  refine r_aload_2 d_X9_nearest_6 ?_
  refine r_ifnonnull d_X9_nearest_7 ?_
  refine r_aload_0 d_X9_nearest_12 ?_
  refine r_get d_X9_nearest_13 s9_casterCount rfl rfl ?_
  rw [hcn]
  refine r_if_ne d_X9_nearest_16 (fun c16 => ?_) (fun c16 => ?_)
  · -- taken at 16
    have c16 : ¬ cn = 0 := fun zz9 => c16 ((nI_eq (a := cn) (b := 0) (by omega) (by omega)).mpr zz9)
    refine r_aload_2 d_X9_nearest_22 ?_
    refine r_V0 d_X9_nearest_23 (c_X0_isThere (x_row hr hz)) (x_row hr hz) rfl rfl ⟨rfl, rfl⟩ (Nat.le_of_ble_eq_true rfl) ?_
    rw [x_th hz64]
    change pm_V _ _ _ (.int (nI 1) :: _) _ _ _
    refine r_if_ne d_X9_nearest_26 (fun c26 => ?_) (fun c26 => absurd c26 (by decide))
    clear c26
    refine r_aload_2 d_X9_nearest_35 ?_
    refine r_aload_0 d_X9_nearest_36 ?_
    refine r_get d_X9_nearest_37 s9_otherParts rfl rfl ?_
    refine r_V1p d_X9_nearest_40 (c_X0_partsInto (f := XA 18) (x_row hr hz) (xr_l hr) hz64 (by omega) (by omega) rfl) (x_row hr hz) rfl rfl ⟨rfl, rfl⟩ (Nat.le_of_ble_eq_true rfl) ?_
    rintro v9 h9 (⟨-, rfl, rfl⟩ | ⟨e0, -, -⟩)
    rotate_left
    · exfalso; omega
    rw [pmX_18]
    change pm_V _ _ _ (.int (nI 0) :: _) _ _ _
    refine r_if_ne d_X9_nearest_43 (fun c43 => absurd (by decide) c43) (fun c43 => ?_)
    clear c43
    refine r_aload_0 d_X9_nearest_46 ?_
    refine r_push (v := nI 4) d_X9_nearest_47 ?_
    refine r_V1 d_X9_nearest_48 (c_X9_found (w := 4) (by decide)) rfl rfl rfl ⟨rfl, rfl⟩ (Nat.le_of_ble_eq_true rfl) ?_
    refine r_ireturn d_X9_nearest_51 ⟨_, rfl, rfl⟩ ?_
    exact ⟨rfl, rfl⟩
  · -- not taken at 16
    have c16 : cn = 0 := (nI_eq (a := cn) (b := 0) (by omega) (by omega)).mp c16
    exfalso; omega
set_option maxRecDepth 10000 in
set_option maxHeartbeats 4000000 in
theorem lp_X9_nearest {h : pm_H} {xi : Nat → Int32} {xl : Nat → Int64} {xc : Nat → Option Nat} {XA : Nat → Nat → Int32} {XB : Nat → Nat → Int64} {r cn ct : Nat} {C : Nat → sp_Cs} {cv off : Nat → Nat} (hCC : x_CC h xi xc cn C) (hq : ∀ j, j < 31 → XA 18 j = nI (sp_rp cv ct j)) (hqs : ∀ j, j < 31 → sp_rp cv ct j ≤ 1000000) (hct : 0 < ct) (hsm : sp_sum cv 31 = ct) (ho : off = fun i => sp_off cv ct (C i)) {F : Option Value → pm_H → Prop} {b : Nat × Nat} (K : ∀ x1 A1 B1 o6, x_l4 xl x1 → x_o1 XA A1 → pm_V e_X9_nearest 102 [some (.ref 1), some (.int (nI r)), some (.ref (36 + 2 * r)), some (.int (nI (x_nr off cn).1)), some (.int (nI (x_nr off cn).2)), some (.int (nI cn)), o6] [] (pmX h xi x1 xc A1 B1) b F) : ∀ (d i : Nat) (x1 : Nat → Int64) (A1 : Nat → Nat → Int32) (B1 : Nat → Nat → Int64) (o6 : Option Value), i + d = cn → x_l4 xl x1 → x_o1 XA A1 → pm_V e_X9_nearest 61 [some (.ref 1), some (.int (nI r)), some (.ref (36 + 2 * r)), some (.int (nI (x_nr off i).1)), some (.int (nI (x_nr off i).2)), some (.int (nI i)), o6] [] (pmX h xi x1 xc A1 B1) b F := by
  have hCC0 := hCC
  obtain ⟨hcn, hn10, hC⟩ := hCC
  have hle : ∀ j, j < cn → off j ≤ 2000000 := fun j hj => by
    rw [ho]; exact sp_off_le (x_kk (hC j hj).2) hct hsm
  intro d
  induction d with
  | zero =>
    intro i x1 A1 B1 o6 hid hl4 ho1
    obtain rfl : i = cn := by omega
    refine r_iload_5 d_X9_nearest_61 ?_
    refine r_aload_0 d_X9_nearest_63 ?_
    refine r_get d_X9_nearest_64 s9_casterCount rfl rfl ?_
    rw [hcn]
    refine r_icmp_ge d_X9_nearest_67 (fun c67 => ?_) (fun c67 => ?_)
    · -- taken at 67
      have c67 : i ≤ i := (nI_leI (a := i) (b := i) (by omega) (by omega)).mp c67
      exact K _ _ _ _ hl4 ho1
    · -- not taken at 67
      have c67 : ¬ i ≤ i := fun zz9 => c67 ((nI_leI (a := i) (b := i) (by omega) (by omega)).mpr zz9)
      exfalso; omega
  | succ d ih =>
    intro i x1 A1 B1 o6 hid hl4 ho1
    have hl1 := x_nr_le (off := off) (i := i) (fun j hj => hle j (by omega))
    have hl2 := hle i (by omega)
    have hnr := x_nr_s (off := off) (hle 0 (by omega)) i
    have K1 := fun x1 A1 B1 o6 h1 h2 => ih (i + 1) x1 A1 B1 o6 (by omega) h1 h2
    have eo : sp_off cv ct (C i) = off i := by rw [ho]
    have hcs := (hC i (by omega)).2
    rw [hnr] at K1
    clear ih hnr
    generalize x_nr off i = s at hl1 K1 ⊢
    generalize off i = w9 at hl2 K1 eo
    generalize C i = q9 at hcs eo
    obtain ⟨kd, n, k, f, lo, hi⟩ := q9
    change pm_cs h (68 + i) kd n k f lo hi at hcs
    obtain ⟨w1, w2, w3⟩ := x_Wc hcs
    have hq1 : ∀ j, j < 31 → A1 18 j = nI (sp_rp cv ct j) := fun j hj => by rw [ho1 18 (by decide)]; exact hq j hj
    refine r_iload_5 d_X9_nearest_61 ?_
    refine r_aload_0 d_X9_nearest_63 ?_
    refine r_get d_X9_nearest_64 s9_casterCount rfl rfl ?_
    rw [hcn]
    refine r_icmp_ge d_X9_nearest_67 (fun c67 => ?_) (fun c67 => ?_)
    · -- taken at 67
      have c67 : cn ≤ i := (nI_leI (a := cn) (b := i) (by omega) (by omega)).mp c67
      exfalso; omega
    · -- not taken at 67
      have c67 : ¬ cn ≤ i := fun zz9 => c67 ((nI_leI (a := cn) (b := i) (by omega) (by omega)).mpr zz9)
      refine r_aload_0 d_X9_nearest_70 ?_
      refine r_aload_0 d_X9_nearest_71 ?_
      refine r_iload_5 d_X9_nearest_72 ?_
      refine r_V1 d_X9_nearest_74 (c_X9_casterAt hCC0 (by omega)) rfl rfl rfl ⟨rfl, rfl⟩ (Nat.le_of_ble_eq_true rfl) ?_
      refine r_V1p d_X9_nearest_77 (c_X9_offOf (q := sp_rp cv ct) hcs hq1 hqs) rfl rfl rfl ⟨rfl, rfl⟩ (Nat.le_of_ble_eq_true rfl) ?_
      rintro v9 h9 ⟨rfl, x9, g9, Y9, rfl⟩
      change pm_V _ _ _ (.int (nI (sp_off cv ct (kd, n, k, f, lo, hi))) :: _) _ _ _
      rw [eo]
      refine r_istore_6 d_X9_nearest_80 (Nat.le_of_ble_eq_true rfl) (fun w hw => by cases hw <;> rfl) ?_
      refine r_iload_6 d_X9_nearest_82 ?_
      refine r_iload_4 d_X9_nearest_84 ?_
      refine r_icmp_ge d_X9_nearest_86 (fun c86 => ?_) (fun c86 => ?_)
      · -- taken at 86
        have c86 : s.2 ≤ w9 := (nI_leI (a := s.2) (b := w9) (by omega) (by omega)).mp c86
        refine r_iinc_5 d_X9_nearest_96 (Nat.le_of_ble_eq_true rfl) (fun w hw => by cases hw <;> rfl) ?_
        rw [nI_1]
        refine r_goto d_X9_nearest_99 ?_
        first
        | (rw [if_neg (by omega)] at K1; exact K1 _ _ _ _ (x_l4_s hl4) (x_o1_s ho1))
        | (rw [if_pos (by omega)] at K1; exact K1 _ _ _ _ (x_l4_s hl4) (x_o1_s ho1))
      · -- not taken at 86
        have c86 : ¬ s.2 ≤ w9 := fun zz9 => c86 ((nI_leI (a := s.2) (b := w9) (by omega) (by omega)).mpr zz9)
        refine r_iload_6 d_X9_nearest_89 ?_
        refine r_istore_4 d_X9_nearest_91 (Nat.le_of_ble_eq_true rfl) (fun w hw => by cases hw <;> rfl) ?_
        refine r_iload_5 d_X9_nearest_93 ?_
        refine r_istore_3 d_X9_nearest_95 (Nat.le_of_ble_eq_true rfl) (fun w hw => by cases hw <;> rfl) ?_
        refine r_iinc_5 d_X9_nearest_96 (Nat.le_of_ble_eq_true rfl) (fun w hw => by cases hw <;> rfl) ?_
        rw [nI_1]
        refine r_goto d_X9_nearest_99 ?_
        first
        | (rw [if_neg (by omega)] at K1; exact K1 _ _ _ _ (x_l4_s hl4) (x_o1_s ho1))
        | (rw [if_pos (by omega)] at K1; exact K1 _ _ _ _ (x_l4_s hl4) (x_o1_s ho1))
set_option maxRecDepth 10000 in
set_option maxHeartbeats 4000000 in
theorem c_X9_nearest {h : pm_H} {xi : Nat → Int32} {xl : Nat → Int64} {xc : Nat → Option Nat} {XA : Nat → Nat → Int32} {XB : Nat → Nat → Int64} {r : Nat} {cn : Nat} {C : Nat → sp_Cs} (hCC : x_CC h xi xc cn C) (h0 : 0 < cn) (hr : r < 4) {z : Nat} (hz : xi (3 + r) = nI z) (hz64 : z ≤ 64) (hct : 0 < (sp_cn (XA (37 + 2 * r)) z)) : pm_Cl e_X9_nearest [.ref 1, .int (nI r)] (pmX h xi xl xc XA XB) (fun v9 h1 => v9 = some (.int (nI (sp_nr (fun i => sp_off (fun j => sp_cv (XA (37 + 2 * r)) j z) (sp_cn (XA (37 + 2 * r)) z) (C i)) (cn - 1)).1)) ∧ ∃ x1 A1 B1, h1 = pmX h xi x1 xc A1 B1 ∧ x_l4 xl x1 ∧ ∀ q, q ≠ 17 → q ≠ 18 → A1 q = XA q) := by
  have hCC0 := hCC
  obtain ⟨hcn, hn10, hC⟩ := hCC
  refine pm_enter rfl (Nat.le_of_ble_eq_true rfl) ?_
  show pm_V e_X9_nearest 0 [some (.ref 1), some (.int (nI r)), none, none, none, none, none] [] (pmX h xi xl xc XA XB) (0, 0) _
  refine r_aload_0 d_X9_nearest_0 ?_
  refine r_iload_1 d_X9_nearest_1 ?_
  refine r_V1 d_X9_nearest_2 (c_X9_rowAt hr) rfl rfl rfl ⟨rfl, rfl⟩ (Nat.le_of_ble_eq_true rfl) ?_
  refine r_astore_2 d_X9_nearest_5 (Nat.le_of_ble_eq_true rfl) (fun w hw => by cases hw <;> rfl) ?_
  refine r_aload_2 d_X9_nearest_6 ?_
  refine r_ifnonnull d_X9_nearest_7 ?_
  refine r_aload_0 d_X9_nearest_12 ?_
  refine r_get d_X9_nearest_13 s9_casterCount rfl rfl ?_
  rw [hcn]
  refine r_if_ne d_X9_nearest_16 (fun c16 => ?_) (fun c16 => ?_)
  · -- taken at 16
    have c16 : ¬ cn = 0 := fun zz9 => c16 ((nI_eq (a := cn) (b := 0) (by omega) (by omega)).mpr zz9)
    refine r_aload_2 d_X9_nearest_22 ?_
    refine r_V0 d_X9_nearest_23 (c_X0_isThere (x_row hr hz)) (x_row hr hz) rfl rfl ⟨rfl, rfl⟩ (Nat.le_of_ble_eq_true rfl) ?_
    rw [x_th hz64]
    change pm_V _ _ _ (.int (nI 1) :: _) _ _ _
    refine r_if_ne d_X9_nearest_26 (fun c26 => ?_) (fun c26 => absurd c26 (by decide))
    clear c26
    refine r_aload_2 d_X9_nearest_35 ?_
    refine r_aload_0 d_X9_nearest_36 ?_
    refine r_get d_X9_nearest_37 s9_otherParts rfl rfl ?_
    refine r_V1p d_X9_nearest_40 (c_X0_partsInto (f := XA 18) (x_row hr hz) (xr_l hr) hz64 (by omega) (by omega) rfl) (x_row hr hz) rfl rfl ⟨rfl, rfl⟩ (Nat.le_of_ble_eq_true rfl) ?_
    rintro v9 h9 (⟨e0, -, -⟩ | ⟨-, rfl, rfl⟩)
    · exfalso; omega
    rw [pmX_18]
    change pm_V _ _ _ (.int (nI 1) :: _) _ _ _
    refine r_if_ne d_X9_nearest_43 (fun c43 => ?_) (fun c43 => absurd c43 (by decide))
    clear c43
    refine r_push (v := nI 0) d_X9_nearest_52 ?_
    refine r_istore_3 d_X9_nearest_53 (Nat.le_of_ble_eq_true rfl) (fun w hw => by cases hw <;> rfl) ?_
    refine r_push (v := nI 2000001) d_X9_nearest_54 ?_
    refine r_istore_4 d_X9_nearest_56 (Nat.le_of_ble_eq_true rfl) (fun w hw => by cases hw <;> rfl) ?_
    refine r_push (v := nI 0) d_X9_nearest_58 ?_
    refine r_istore_5 d_X9_nearest_59 (Nat.le_of_ble_eq_true rfl) (fun w hw => by cases hw <;> rfl) ?_
    refine lp_X9_nearest (xl := xl) (XA := (va_up XA 18 (pm_fc (fun j => nI (1000000 * sp_cv (XA (37 + 2 * r)) j z / (sp_cn (XA (37 + 2 * r)) z))) (pm_fc (fun j => nI (sp_cv (XA (37 + 2 * r)) j z)) (XA 18) 31) 31))) (XB := XB) (cv := (fun j => sp_cv (XA (37 + 2 * r)) j z)) (ct := (sp_cn (XA (37 + 2 * r)) z)) (C := C) (off := (fun i => sp_off (fun j => sp_cv (XA (37 + 2 * r)) j z) (sp_cn (XA (37 + 2 * r)) z) (C i))) hCC0 x_rp (x_rpl hct) hct (sp_cv_sum _ _) rfl (fun x1 A1 B1 o6 h4 h17 => ?_) cn 0 xl _ XB none (by omega) (fun q _ => rfl) (fun q _ => rfl)
    refine r_iload_3 d_X9_nearest_102 ?_
    refine r_ireturn d_X9_nearest_103 ⟨_, rfl, rfl⟩ ?_
    refine ⟨?_, x1, A1, B1, rfl, h4, fun q hq1 hq2 => (h17 q hq1).trans (if_neg hq2)⟩
    rw [show x_nr (fun i => sp_off (fun j => sp_cv (XA (37 + 2 * r)) j z) (sp_cn (XA (37 + 2 * r)) z) (C i)) cn = sp_nr (fun i => sp_off (fun j => sp_cv (XA (37 + 2 * r)) j z) (sp_cn (XA (37 + 2 * r)) z) (C i)) (cn - 1) from (by obtain ⟨m, rfl⟩ : ∃ m, cn = m + 1 := ⟨cn - 1, by omega⟩; rfl)]
  · -- not taken at 16
    have c16 : cn = 0 := (nI_eq (a := cn) (b := 0) (by omega) (by omega)).mp c16
    exfalso; omega
set_option maxRecDepth 10000 in
set_option maxHeartbeats 4000000 in
theorem w_X9_lost_115 {h : pm_H} {xi : Nat → Int32} {xl : Nat → Int64} {xc : Nat → Option Nat} {XA : Nat → Nat → Int32} {XB : Nat → Nat → Int64} {j kd n k f lo hi m : Nat} (hcs : pm_cs h (68 + j) kd n k f lo hi) (hkd : kd = 1 ∨ kd = 3) (hm : 4 ≤ m ∧ m ≤ 60) {L : List (Option Value)} {b : Nat × Nat} {F : Option Value → pm_H → Prop} (K : ∀ W Hp Nx, sp_ag 31 W (sp_Wc (kd, m, k, f, lo, hi)).1 → pm_V e_X9_lost 118 L [] (pmO (pmX h xi xl xc XA XB) W Hp Nx (sp_Wc (kd, m, k, f, lo, hi)).2) b F) : pm_V e_X9_lost 115 L [.ref 13, .int (nI m), .ref (68 + j)] (pmX h xi xl xc XA XB) b F := by
  obtain ⟨W0, Hp0, Nx0, al0, eO⟩ := pmX_Oo (h := h) (xi := xi) (xl := xl) (xc := xc) (XA := XA) (XB := XB)
  rw [eO]
  have hcg := sp_Wt_cg (kd := kd) (n := m) (k := k) (f := f) (lo := lo) (hi := hi) (w0 := W0) (Hp := Hp0) (Nx := Nx0) (w0' := (fun _ => 0)) (Hp' := (fun _ => 0)) (Nx' := (fun _ => 0))
  rcases hcs with ⟨e, z⟩ | ⟨e, z⟩ | ⟨e, e1, e2, ok, z⟩ | ⟨e, ok, z⟩
  · exfalso; omega
  · exfalso; omega
  · subst e
    have z9 := (pmX_ne (h := h) (xi := xi) (xl := xl) (xc := xc) (XA := XA) (XB := XB) (a := 68 + j) (by omega)).trans z
    have hbd := (sp_S3_ok (m := m) (Hp := Hp0) (Nx := Nx0) ok hm).1
    refine r_V2v d_X9_lost_115_6 (c_X6_weighBundle (Or.inl ⟨z9, e1, e2⟩) ok (by omega) hm.2 hbd) (pmO_ne (by omega) z9) rfl rfl ⟨rfl, rfl⟩ (Nat.le_of_ble_eq_true rfl) ?_
    have K1 := K _ (sp_S3 k f lo hi m Hp0 Nx0 3).1 (sp_S3 k f lo hi m Hp0 Nx0 3).2.1 hcg.1
    rw [show (sp_Wc (1, m, k, f, lo, hi)).2 = (sp_S3 k f lo hi m Hp0 Nx0 3).2.2 from hcg.2.symm] at K1
    exact K1
  · subst e
    have z9 := (pmX_ne (h := h) (xi := xi) (xl := xl) (xc := xc) (XA := XA) (XB := XB) (a := 68 + j) (by omega)).trans z
    have hbd := (sp_S3_ok (m := m) (Hp := Hp0) (Nx := Nx0) ok hm).1
    refine r_V2v d_X9_lost_115_7 (c_X6_weighBundle (Or.inr z9) ok (by omega) hm.2 hbd) (pmO_ne (by omega) z9) rfl rfl ⟨rfl, rfl⟩ (Nat.le_of_ble_eq_true rfl) ?_
    have K1 := K _ (sp_S3 k f lo hi m Hp0 Nx0 3).1 (sp_S3 k f lo hi m Hp0 Nx0 3).2.1 hcg.1
    rw [show (sp_Wc (3, m, k, f, lo, hi)).2 = (sp_S3 k f lo hi m Hp0 Nx0 3).2.2 from hcg.2.symm] at K1
    exact K1
set_option maxRecDepth 10000 in
set_option maxHeartbeats 4000000 in
theorem c_X9_lost_1 {h : pm_H} {xi : Nat → Int32} {xl : Nat → Int64} {xc : Nat → Option Nat} {XA : Nat → Nat → Int32} {XB : Nat → Nat → Int64} {r c : Int32} {cn : Nat} {C : Nat → sp_Cs} (hCC : x_CC h xi xc cn C) (hr : sp_in r 0 3 = false) (hci : pm_ci c cn = none) : pm_Cv e_X9_lost [.ref 1, .int r, .int c] (pmX h xi xl xc XA XB) (.int (-1)) (pmX h xi xl xc XA XB) := by
  refine pm_enter rfl (Nat.le_of_ble_eq_true rfl) ?_
  show pm_V e_X9_lost 0 [some (.ref 1), some (.int r), some (.int c), none, none, none, none, none, none, none] [] (pmX h xi xl xc XA XB) (0, 0) _
  refine r_aload_0 d_X9_lost_0 ?_
  refine r_iload_1 d_X9_lost_1 ?_
  refine r_V1 d_X9_lost_2 (c_X9_rowAt_no hr) rfl rfl rfl ⟨rfl, rfl⟩ (Nat.le_of_ble_eq_true rfl) ?_
  refine r_astoreN_3 d_X9_lost_5 (Nat.le_of_ble_eq_true rfl) (fun w hw => by cases hw <;> rfl) ?_
  refine r_aload_0 d_X9_lost_6 ?_
  refine r_iload_2 d_X9_lost_7 ?_
  refine r_V1 d_X9_lost_8 (c_X9_casterAt_no hCC.1 hci) rfl rfl rfl ⟨rfl, rfl⟩ (Nat.le_of_ble_eq_true rfl) ?_
  refine r_astoreN_4 d_X9_lost_11 (Nat.le_of_ble_eq_true rfl) (fun w hw => by cases hw <;> rfl) ?_
  refine r_aloadN_3 d_X9_lost_13 ?_
  refine r_ifnullN d_X9_lost_14 ?_
  refine r_push d_X9_lost_22 ?_
  refine r_ireturn d_X9_lost_23 ⟨_, rfl, rfl⟩ ?_
  exact ⟨rfl, rfl⟩
set_option maxRecDepth 10000 in
set_option maxHeartbeats 4000000 in
theorem c_X9_lost_2 {h : pm_H} {xi : Nat → Int32} {xl : Nat → Int64} {xc : Nat → Option Nat} {XA : Nat → Nat → Int32} {XB : Nat → Nat → Int64} {r : Int32} {j : Nat} {cn : Nat} {C : Nat → sp_Cs} (hCC : x_CC h xi xc cn C) (hr : sp_in r 0 3 = false) (hj : j < cn) : pm_Cv e_X9_lost [.ref 1, .int r, .int (nI j)] (pmX h xi xl xc XA XB) (.int (-1)) (pmX h xi xl xc XA XB) := by
  refine pm_enter rfl (Nat.le_of_ble_eq_true rfl) ?_
  show pm_V e_X9_lost 0 [some (.ref 1), some (.int r), some (.int (nI j)), none, none, none, none, none, none, none] [] (pmX h xi xl xc XA XB) (0, 0) _
  refine r_aload_0 d_X9_lost_0 ?_
  refine r_iload_1 d_X9_lost_1 ?_
  refine r_V1 d_X9_lost_2 (c_X9_rowAt_no hr) rfl rfl rfl ⟨rfl, rfl⟩ (Nat.le_of_ble_eq_true rfl) ?_
  refine r_astoreN_3 d_X9_lost_5 (Nat.le_of_ble_eq_true rfl) (fun w hw => by cases hw <;> rfl) ?_
  refine r_aload_0 d_X9_lost_6 ?_
  refine r_iload_2 d_X9_lost_7 ?_
  refine r_V1 d_X9_lost_8 (c_X9_casterAt hCC hj) rfl rfl rfl ⟨rfl, rfl⟩ (Nat.le_of_ble_eq_true rfl) ?_
  refine r_astore_4 d_X9_lost_11 (Nat.le_of_ble_eq_true rfl) (fun w hw => by cases hw <;> rfl) ?_
  refine r_aloadN_3 d_X9_lost_13 ?_
  refine r_ifnullN d_X9_lost_14 ?_
  refine r_push d_X9_lost_22 ?_
  refine r_ireturn d_X9_lost_23 ⟨_, rfl, rfl⟩ ?_
  exact ⟨rfl, rfl⟩
set_option maxRecDepth 10000 in
set_option maxHeartbeats 4000000 in
theorem c_X9_lost_3 {h : pm_H} {xi : Nat → Int32} {xl : Nat → Int64} {xc : Nat → Option Nat} {XA : Nat → Nat → Int32} {XB : Nat → Nat → Int64} {r : Nat} {c : Int32} {cn : Nat} {C : Nat → sp_Cs} (hCC : x_CC h xi xc cn C) (hr : r < 4) (hci : pm_ci c cn = none) : pm_Cv e_X9_lost [.ref 1, .int (nI r), .int c] (pmX h xi xl xc XA XB) (.int (-1)) (pmX h xi xl xc XA XB) := by
  refine pm_enter rfl (Nat.le_of_ble_eq_true rfl) ?_
  show pm_V e_X9_lost 0 [some (.ref 1), some (.int (nI r)), some (.int c), none, none, none, none, none, none, none] [] (pmX h xi xl xc XA XB) (0, 0) _
  refine r_aload_0 d_X9_lost_0 ?_
  refine r_iload_1 d_X9_lost_1 ?_
  refine r_V1 d_X9_lost_2 (c_X9_rowAt hr) rfl rfl rfl ⟨rfl, rfl⟩ (Nat.le_of_ble_eq_true rfl) ?_
  refine r_astore_3 d_X9_lost_5 (Nat.le_of_ble_eq_true rfl) (fun w hw => by cases hw <;> rfl) ?_
  refine r_aload_0 d_X9_lost_6 ?_
  refine r_iload_2 d_X9_lost_7 ?_
  refine r_V1 d_X9_lost_8 (c_X9_casterAt_no hCC.1 hci) rfl rfl rfl ⟨rfl, rfl⟩ (Nat.le_of_ble_eq_true rfl) ?_
  refine r_astoreN_4 d_X9_lost_11 (Nat.le_of_ble_eq_true rfl) (fun w hw => by cases hw <;> rfl) ?_
  refine r_aload_3 d_X9_lost_13 ?_
  refine r_ifnull d_X9_lost_14 ?_
  refine r_aloadN_4 d_X9_lost_17 ?_
  refine r_ifnonnullN d_X9_lost_19 ?_
  refine r_push d_X9_lost_22 ?_
  refine r_ireturn d_X9_lost_23 ⟨_, rfl, rfl⟩ ?_
  exact ⟨rfl, rfl⟩
set_option maxRecDepth 10000 in
set_option maxHeartbeats 4000000 in
theorem c_X9_lost_no {h : pm_H} {xi : Nat → Int32} {xl : Nat → Int64} {xc : Nat → Option Nat} {XA : Nat → Nat → Int32} {XB : Nat → Nat → Int64} {r j : Nat} {cn : Nat} {C : Nat → sp_Cs} (hCC : x_CC h xi xc cn C) (hr : r < 4) (hj : j < cn) (hz : xi (3 + r) = -1) : pm_Cv e_X9_lost [.ref 1, .int (nI r), .int (nI j)] (pmX h xi xl xc XA XB) (.int (-3)) (x_meet h xi xl xc XA XB 1) := by
  refine pm_enter rfl (Nat.le_of_ble_eq_true rfl) ?_
  show pm_V e_X9_lost 0 [some (.ref 1), some (.int (nI r)), some (.int (nI j)), none, none, none, none, none, none, none] [] (pmX h xi xl xc XA XB) (0, 0) _
  refine r_aload_0 d_X9_lost_0 ?_
  refine r_iload_1 d_X9_lost_1 ?_
  refine r_V1 d_X9_lost_2 (c_X9_rowAt hr) rfl rfl rfl ⟨rfl, rfl⟩ (Nat.le_of_ble_eq_true rfl) ?_
  refine r_astore_3 d_X9_lost_5 (Nat.le_of_ble_eq_true rfl) (fun w hw => by cases hw <;> rfl) ?_
  refine r_aload_0 d_X9_lost_6 ?_
  refine r_iload_2 d_X9_lost_7 ?_
  refine r_V1 d_X9_lost_8 (c_X9_casterAt hCC hj) rfl rfl rfl ⟨rfl, rfl⟩ (Nat.le_of_ble_eq_true rfl) ?_
  refine r_astore_4 d_X9_lost_11 (Nat.le_of_ble_eq_true rfl) (fun w hw => by cases hw <;> rfl) ?_
  refine r_aload_3 d_X9_lost_13 ?_
  refine r_ifnull d_X9_lost_14 ?_
  refine r_aload_4 d_X9_lost_17 ?_
  refine r_ifnonnull d_X9_lost_19 ?_
  refine r_aload_3 d_X9_lost_24 ?_
  refine r_V0 d_X9_lost_25 (c_X0_isThere (x_row hr hz)) (x_row hr hz) rfl rfl ⟨rfl, rfl⟩ (Nat.le_of_ble_eq_true rfl) ?_
  rw [show decide (0 ≤ (-1 : Int32)) = false from rfl]
  change pm_V _ _ _ (.int (nI 0) :: _) _ _ _
  refine r_if_ne d_X9_lost_28 (fun c28 => absurd (by decide) c28) (fun c28 => ?_)
  clear c28
  refine r_aload_0 d_X9_lost_31 ?_
  refine r_push (v := nI 1) d_X9_lost_32 ?_
  refine r_V1 d_X9_lost_33 (c_X9_found (w := 1) (by decide)) rfl rfl rfl ⟨rfl, rfl⟩ (Nat.le_of_ble_eq_true rfl) ?_
  refine r_ireturn d_X9_lost_36 ⟨_, rfl, rfl⟩ ?_
  exact ⟨rfl, rfl⟩
set_option maxRecDepth 10000 in
set_option maxHeartbeats 4000000 in
theorem c_X9_lost_unlike {h : pm_H} {xi : Nat → Int32} {xl : Nat → Int64} {xc : Nat → Option Nat} {XA : Nat → Nat → Int32} {XB : Nat → Nat → Int64} {r j : Nat} {cn : Nat} {C : Nat → sp_Cs} (hCC : x_CC h xi xc cn C) (hr : r < 4) (hj : j < cn) {z : Nat} (hz : xi (3 + r) = nI z) (hz64 : z ≤ 64) (hpk : sp_pk (C j).1 = false) : pm_Cv e_X9_lost [.ref 1, .int (nI r), .int (nI j)] (pmX h xi xl xc XA XB) (.int (-3)) (x_meet h xi xl xc XA XB 3) := by
  have hA : pm_Cv e_X9_casterAt [.ref 1, .int (nI j)] (pmX h xi xl xc XA XB) (.ref (68 + j)) (pmX h xi xl xc XA XB) := c_X9_casterAt hCC hj
  have hcs := (hCC.2.2 j hj).2
  generalize C j = q9 at hcs hpk
  obtain ⟨kd, n, k, f, lo, hi⟩ := q9
  change pm_cs h (68 + j) kd n k f lo hi at hcs
  change sp_pk kd = false at hpk
  rcases hcs with ⟨e, z⟩ | ⟨e, z⟩ | ⟨e, e1, e2, ok, z⟩ | ⟨e, ok, z⟩
  · subst e
    have z9 := (pmX_ne (h := h) (xi := xi) (xl := xl) (xc := xc) (XA := XA) (XB := XB) (a := 68 + j) (by omega)).trans z
    refine pm_enter rfl (Nat.le_of_ble_eq_true rfl) ?_
    show pm_V e_X9_lost 0 [some (.ref 1), some (.int (nI r)), some (.int (nI j)), none, none, none, none, none, none, none] [] (pmX h xi xl xc XA XB) (0, 0) _
    refine r_aload_0 d_X9_lost_0 ?_
    refine r_iload_1 d_X9_lost_1 ?_
    refine r_V1 d_X9_lost_2 (c_X9_rowAt hr) rfl rfl rfl ⟨rfl, rfl⟩ (Nat.le_of_ble_eq_true rfl) ?_
    refine r_astore_3 d_X9_lost_5 (Nat.le_of_ble_eq_true rfl) (fun w hw => by cases hw <;> rfl) ?_
    refine r_aload_0 d_X9_lost_6 ?_
    refine r_iload_2 d_X9_lost_7 ?_
    refine r_V1 d_X9_lost_8 hA rfl rfl rfl ⟨rfl, rfl⟩ (Nat.le_of_ble_eq_true rfl) ?_
    refine r_astore_4 d_X9_lost_11 (Nat.le_of_ble_eq_true rfl) (fun w hw => by cases hw <;> rfl) ?_
    refine r_aload_3 d_X9_lost_13 ?_
    refine r_ifnull d_X9_lost_14 ?_
    refine r_aload_4 d_X9_lost_17 ?_
    refine r_ifnonnull d_X9_lost_19 ?_
    refine r_aload_3 d_X9_lost_24 ?_
    refine r_V0 d_X9_lost_25 (c_X0_isThere (x_row hr hz)) (x_row hr hz) rfl rfl ⟨rfl, rfl⟩ (Nat.le_of_ble_eq_true rfl) ?_
    rw [x_th hz64]
    change pm_V _ _ _ (.int (nI 1) :: _) _ _ _
    refine r_if_ne d_X9_lost_28 (fun c28 => ?_) (fun c28 => absurd c28 (by decide))
    clear c28
    refine r_aload_4 d_X9_lost_37 ?_
    refine r_S1 d_X9_lost_39 (c_X9_asStalks1 (fs := []) z9) ⟨rfl, rfl⟩ (Nat.le_of_ble_eq_true rfl) ?_
    refine r_astoreN_5 d_X9_lost_42 (Nat.le_of_ble_eq_true rfl) (fun w hw => by cases hw <;> rfl) ?_
    refine r_aloadN_5 d_X9_lost_44 ?_
    refine r_ifnonnullN d_X9_lost_46 ?_
    refine r_aload_0 d_X9_lost_49 ?_
    refine r_push (v := nI 3) d_X9_lost_50 ?_
    refine r_V1 d_X9_lost_51 (c_X9_found (w := 3) (by decide)) rfl rfl rfl ⟨rfl, rfl⟩ (Nat.le_of_ble_eq_true rfl) ?_
    refine r_ireturn d_X9_lost_54 ⟨_, rfl, rfl⟩ ?_
    exact ⟨rfl, rfl⟩
  · subst e
    have z9 := (pmX_ne (h := h) (xi := xi) (xl := xl) (xc := xc) (XA := XA) (XB := XB) (a := 68 + j) (by omega)).trans z
    refine pm_enter rfl (Nat.le_of_ble_eq_true rfl) ?_
    show pm_V e_X9_lost 0 [some (.ref 1), some (.int (nI r)), some (.int (nI j)), none, none, none, none, none, none, none] [] (pmX h xi xl xc XA XB) (0, 0) _
    refine r_aload_0 d_X9_lost_0 ?_
    refine r_iload_1 d_X9_lost_1 ?_
    refine r_V1 d_X9_lost_2 (c_X9_rowAt hr) rfl rfl rfl ⟨rfl, rfl⟩ (Nat.le_of_ble_eq_true rfl) ?_
    refine r_astore_3 d_X9_lost_5 (Nat.le_of_ble_eq_true rfl) (fun w hw => by cases hw <;> rfl) ?_
    refine r_aload_0 d_X9_lost_6 ?_
    refine r_iload_2 d_X9_lost_7 ?_
    refine r_V1 d_X9_lost_8 hA rfl rfl rfl ⟨rfl, rfl⟩ (Nat.le_of_ble_eq_true rfl) ?_
    refine r_astore_4 d_X9_lost_11 (Nat.le_of_ble_eq_true rfl) (fun w hw => by cases hw <;> rfl) ?_
    refine r_aload_3 d_X9_lost_13 ?_
    refine r_ifnull d_X9_lost_14 ?_
    refine r_aload_4 d_X9_lost_17 ?_
    refine r_ifnonnull d_X9_lost_19 ?_
    refine r_aload_3 d_X9_lost_24 ?_
    refine r_V0 d_X9_lost_25 (c_X0_isThere (x_row hr hz)) (x_row hr hz) rfl rfl ⟨rfl, rfl⟩ (Nat.le_of_ble_eq_true rfl) ?_
    rw [x_th hz64]
    change pm_V _ _ _ (.int (nI 1) :: _) _ _ _
    refine r_if_ne d_X9_lost_28 (fun c28 => ?_) (fun c28 => absurd c28 (by decide))
    clear c28
    refine r_aload_4 d_X9_lost_37 ?_
    refine r_S1 d_X9_lost_39 (c_X9_asStalks2 (fs := []) z9) ⟨rfl, rfl⟩ (Nat.le_of_ble_eq_true rfl) ?_
    refine r_astoreN_5 d_X9_lost_42 (Nat.le_of_ble_eq_true rfl) (fun w hw => by cases hw <;> rfl) ?_
    refine r_aloadN_5 d_X9_lost_44 ?_
    refine r_ifnonnullN d_X9_lost_46 ?_
    refine r_aload_0 d_X9_lost_49 ?_
    refine r_push (v := nI 3) d_X9_lost_50 ?_
    refine r_V1 d_X9_lost_51 (c_X9_found (w := 3) (by decide)) rfl rfl rfl ⟨rfl, rfl⟩ (Nat.le_of_ble_eq_true rfl) ?_
    refine r_ireturn d_X9_lost_54 ⟨_, rfl, rfl⟩ ?_
    exact ⟨rfl, rfl⟩
  · subst e; cases hpk
  · subst e; cases hpk
set_option maxRecDepth 10000 in
set_option maxHeartbeats 4000000 in
theorem c_X9_lost_nought {h : pm_H} {xi : Nat → Int32} {xl : Nat → Int64} {xc : Nat → Option Nat} {XA : Nat → Nat → Int32} {XB : Nat → Nat → Int64} {r j : Nat} {cn : Nat} {C : Nat → sp_Cs} (hCC : x_CC h xi xc cn C) (hr : r < 4) (hj : j < cn) {z : Nat} (hz : xi (3 + r) = nI z) (hz64 : z ≤ 64) (hpk : sp_pk (C j).1 = true) (hct : (sp_cn (XA (37 + 2 * r)) z) = 0) : pm_Cv e_X9_lost [.ref 1, .int (nI r), .int (nI j)] (pmX h xi xl xc XA XB) (.int (-3)) (x_meet h xi xl xc (va_up XA 18 (pm_fc (fun j => nI (sp_cv (XA (37 + 2 * r)) j z)) (XA 18) 31)) XB 4) := by
  have hA : pm_Cv e_X9_casterAt [.ref 1, .int (nI j)] (pmX h xi xl xc XA XB) (.ref (68 + j)) (pmX h xi xl xc XA XB) := c_X9_casterAt hCC hj
  have hcs := (hCC.2.2 j hj).2
  generalize C j = q9 at hcs hpk ⊢
  obtain ⟨kd, n, k, f, lo, hi⟩ := q9
  change pm_cs h (68 + j) kd n k f lo hi at hcs
  change sp_pk kd = true at hpk
  have hcs0 := hcs
  rcases hcs with ⟨e, zc⟩ | ⟨e, zc⟩ | ⟨e, e1, e2, ok, zc⟩ | ⟨e, ok, zc⟩
  · subst e; cases hpk
  · subst e; cases hpk
  · subst e
    have z9 := (pmX_ne (h := h) (xi := xi) (xl := xl) (xc := xc) (XA := XA) (XB := XB) (a := 68 + j) (by omega)).trans zc
    refine pm_enter rfl (Nat.le_of_ble_eq_true rfl) ?_
    show pm_V e_X9_lost 0 [some (.ref 1), some (.int (nI r)), some (.int (nI j)), none, none, none, none, none, none, none] [] (pmX h xi xl xc XA XB) (0, 0) _
    refine r_aload_0 d_X9_lost_0 ?_
    refine r_iload_1 d_X9_lost_1 ?_
    refine r_V1 d_X9_lost_2 (c_X9_rowAt hr) rfl rfl rfl ⟨rfl, rfl⟩ (Nat.le_of_ble_eq_true rfl) ?_
    refine r_astore_3 d_X9_lost_5 (Nat.le_of_ble_eq_true rfl) (fun w hw => by cases hw <;> rfl) ?_
    refine r_aload_0 d_X9_lost_6 ?_
    refine r_iload_2 d_X9_lost_7 ?_
    refine r_V1 d_X9_lost_8 hA rfl rfl rfl ⟨rfl, rfl⟩ (Nat.le_of_ble_eq_true rfl) ?_
    refine r_astore_4 d_X9_lost_11 (Nat.le_of_ble_eq_true rfl) (fun w hw => by cases hw <;> rfl) ?_
    refine r_aload_3 d_X9_lost_13 ?_
    refine r_ifnull d_X9_lost_14 ?_
    refine r_aload_4 d_X9_lost_17 ?_
    refine r_ifnonnull d_X9_lost_19 ?_
    refine r_aload_3 d_X9_lost_24 ?_
    refine r_V0 d_X9_lost_25 (c_X0_isThere (x_row hr hz)) (x_row hr hz) rfl rfl ⟨rfl, rfl⟩ (Nat.le_of_ble_eq_true rfl) ?_
    rw [x_th hz64]
    change pm_V _ _ _ (.int (nI 1) :: _) _ _ _
    refine r_if_ne d_X9_lost_28 (fun c28 => ?_) (fun c28 => absurd c28 (by decide))
    clear c28
    refine r_aload_4 d_X9_lost_37 ?_
    refine r_S1 d_X9_lost_39 (c_X9_asStalks6 z9) ⟨rfl, rfl⟩ (Nat.le_of_ble_eq_true rfl) ?_
    refine r_astore_5 d_X9_lost_42 (Nat.le_of_ble_eq_true rfl) (fun w hw => by cases hw <;> rfl) ?_
    refine r_aload_5 d_X9_lost_44 ?_
    refine r_ifnonnull d_X9_lost_46 ?_
    refine r_aload_3 d_X9_lost_55 ?_
    refine r_aload_0 d_X9_lost_56 ?_
    refine r_get d_X9_lost_57 s9_otherParts rfl rfl ?_
    refine r_V1p d_X9_lost_60 (c_X0_partsInto (f := XA 18) (x_row hr hz) (xr_l hr) hz64 (by omega) (by omega) rfl) (x_row hr hz) rfl rfl ⟨rfl, rfl⟩ (Nat.le_of_ble_eq_true rfl) ?_
    rintro v9 h9 (⟨-, rfl, rfl⟩ | ⟨e0, -, -⟩)
    rotate_left
    · exfalso; omega
    rw [pmX_18]
    change pm_V _ _ _ (.int (nI 0) :: _) _ _ _
    refine r_if_ne d_X9_lost_63 (fun c63 => absurd (by decide) c63) (fun c63 => ?_)
    clear c63
    refine r_aload_0 d_X9_lost_66 ?_
    refine r_push (v := nI 4) d_X9_lost_67 ?_
    refine r_V1 d_X9_lost_68 (c_X9_found (w := 4) (by decide)) rfl rfl rfl ⟨rfl, rfl⟩ (Nat.le_of_ble_eq_true rfl) ?_
    refine r_ireturn d_X9_lost_71 ⟨_, rfl, rfl⟩ ?_
    exact ⟨rfl, rfl⟩
  · subst e
    have z9 := (pmX_ne (h := h) (xi := xi) (xl := xl) (xc := xc) (XA := XA) (XB := XB) (a := 68 + j) (by omega)).trans zc
    refine pm_enter rfl (Nat.le_of_ble_eq_true rfl) ?_
    show pm_V e_X9_lost 0 [some (.ref 1), some (.int (nI r)), some (.int (nI j)), none, none, none, none, none, none, none] [] (pmX h xi xl xc XA XB) (0, 0) _
    refine r_aload_0 d_X9_lost_0 ?_
    refine r_iload_1 d_X9_lost_1 ?_
    refine r_V1 d_X9_lost_2 (c_X9_rowAt hr) rfl rfl rfl ⟨rfl, rfl⟩ (Nat.le_of_ble_eq_true rfl) ?_
    refine r_astore_3 d_X9_lost_5 (Nat.le_of_ble_eq_true rfl) (fun w hw => by cases hw <;> rfl) ?_
    refine r_aload_0 d_X9_lost_6 ?_
    refine r_iload_2 d_X9_lost_7 ?_
    refine r_V1 d_X9_lost_8 hA rfl rfl rfl ⟨rfl, rfl⟩ (Nat.le_of_ble_eq_true rfl) ?_
    refine r_astore_4 d_X9_lost_11 (Nat.le_of_ble_eq_true rfl) (fun w hw => by cases hw <;> rfl) ?_
    refine r_aload_3 d_X9_lost_13 ?_
    refine r_ifnull d_X9_lost_14 ?_
    refine r_aload_4 d_X9_lost_17 ?_
    refine r_ifnonnull d_X9_lost_19 ?_
    refine r_aload_3 d_X9_lost_24 ?_
    refine r_V0 d_X9_lost_25 (c_X0_isThere (x_row hr hz)) (x_row hr hz) rfl rfl ⟨rfl, rfl⟩ (Nat.le_of_ble_eq_true rfl) ?_
    rw [x_th hz64]
    change pm_V _ _ _ (.int (nI 1) :: _) _ _ _
    refine r_if_ne d_X9_lost_28 (fun c28 => ?_) (fun c28 => absurd c28 (by decide))
    clear c28
    refine r_aload_4 d_X9_lost_37 ?_
    refine r_S1 d_X9_lost_39 (c_X9_asStalks7 z9) ⟨rfl, rfl⟩ (Nat.le_of_ble_eq_true rfl) ?_
    refine r_astore_5 d_X9_lost_42 (Nat.le_of_ble_eq_true rfl) (fun w hw => by cases hw <;> rfl) ?_
    refine r_aload_5 d_X9_lost_44 ?_
    refine r_ifnonnull d_X9_lost_46 ?_
    refine r_aload_3 d_X9_lost_55 ?_
    refine r_aload_0 d_X9_lost_56 ?_
    refine r_get d_X9_lost_57 s9_otherParts rfl rfl ?_
    refine r_V1p d_X9_lost_60 (c_X0_partsInto (f := XA 18) (x_row hr hz) (xr_l hr) hz64 (by omega) (by omega) rfl) (x_row hr hz) rfl rfl ⟨rfl, rfl⟩ (Nat.le_of_ble_eq_true rfl) ?_
    rintro v9 h9 (⟨-, rfl, rfl⟩ | ⟨e0, -, -⟩)
    rotate_left
    · exfalso; omega
    rw [pmX_18]
    change pm_V _ _ _ (.int (nI 0) :: _) _ _ _
    refine r_if_ne d_X9_lost_63 (fun c63 => absurd (by decide) c63) (fun c63 => ?_)
    clear c63
    refine r_aload_0 d_X9_lost_66 ?_
    refine r_push (v := nI 4) d_X9_lost_67 ?_
    refine r_V1 d_X9_lost_68 (c_X9_found (w := 4) (by decide)) rfl rfl rfl ⟨rfl, rfl⟩ (Nat.le_of_ble_eq_true rfl) ?_
    refine r_ireturn d_X9_lost_71 ⟨_, rfl, rfl⟩ ?_
    exact ⟨rfl, rfl⟩
set_option maxRecDepth 10000 in
set_option maxHeartbeats 4000000 in
theorem lp_X9_lost {h : pm_H} {xi : Nat → Int32} {xl : Nat → Int64} {xc : Nat → Option Nat} {XA : Nat → Nat → Int32} {XB : Nat → Nat → Int64} {r j kd n k f lo hi ct : Nat} {cv off : Nat → Nat} (hcs : pm_cs h (68 + j) kd n k f lo hi) (hkd : kd = 1 ∨ kd = 3) (hq : ∀ j, j < 31 → XA 18 j = nI (sp_rp cv ct j)) (hqs : ∀ j, j < 31 → sp_rp cv ct j ≤ 1000000) (hct : 0 < ct) (hsm : sp_sum cv 31 = ct) (ho : off = fun d => sp_off cv ct (sp_fw (kd, n, k, f, lo, hi) d)) {F : Option Value → pm_H → Prop} {b : Nat × Nat} (K : ∀ x1 A1 B1 o9, x_l4 xl x1 → x_o1 XA A1 → pm_V e_X9_lost 145 [some (.ref 1), some (.int (nI r)), some (.int (nI j)), some (.ref (36 + 2 * r)), some (.ref (68 + j)), some (.ref (68 + j)), some (.int (nI (x_nr off (min 8 (n - 4) + 1)).1)), some (.int (nI (x_nr off (min 8 (n - 4) + 1)).2)), some (.int (nI (min 8 (n - 4) + 1))), o9] [] (pmX h xi x1 xc A1 B1) b F) : ∀ (d i : Nat) (x1 : Nat → Int64) (A1 : Nat → Nat → Int32) (B1 : Nat → Nat → Int64) (o9 : Option Value), i + d = (min 8 (n - 4) + 1) → x_l4 xl x1 → x_o1 XA A1 → pm_V e_X9_lost 82 [some (.ref 1), some (.int (nI r)), some (.int (nI j)), some (.ref (36 + 2 * r)), some (.ref (68 + j)), some (.ref (68 + j)), some (.int (nI (x_nr off i).1)), some (.int (nI (x_nr off i).2)), some (.int (nI i)), o9] [] (pmX h xi x1 xc A1 B1) b F := by
  have hok : pm_ok n k f lo hi := by
    rcases hcs with ⟨e, z⟩ | ⟨e, z⟩ | ⟨e, e1, e2, ok, z⟩ | ⟨e, ok, z⟩
    · omega
    · omega
    · exact ok
    · exact ok
  have hn4 := hok.1
  have hn60 := hok.2.1
  have hfk : ∀ d, d ≤ n - 4 → sp_kk kd (n - d) k f lo hi := fun d hd => Or.inr (Or.inr ⟨hkd, by omega, by omega, hok.2.2⟩)
  have hle : ∀ d, d ≤ n - 4 → off d ≤ 2000000 := fun d hd => by
    rw [ho]; exact sp_off_le (q := sp_fw (kd, n, k, f, lo, hi) d) (hfk d hd) hct hsm
  intro d
  induction d with
  | zero =>
    intro i x1 A1 B1 o9 hid hl4 ho1
    have hi0 : i = min 8 (n - 4) + 1 := by omega
    rw [← hi0] at K
    rcases hcs with ⟨e, z⟩ | ⟨e, z⟩ | ⟨e, e1, e2, ok, z⟩ | ⟨e, ok, z⟩
    · exfalso; omega
    · exfalso; omega
    · have z9 := (pmX_ne (h := h) (xi := xi) (xl := x1) (xc := xc) (XA := A1) (XB := B1) (a := 68 + j) (by omega)).trans z
      refine r_iload_8 d_X9_lost_82 ?_
      refine r_push (v := nI 8) d_X9_lost_84 ?_
      refine r_icmp_gt d_X9_lost_86 (fun c86 => ?_) (fun c86 => ?_)
      · -- taken at 86
        have c86 : 8 < i := (nI_ltI (a := 8) (b := i) (by omega) (by omega)).mp c86
        exact K _ _ _ _ hl4 ho1
      · -- not taken at 86
        have c86 : ¬ 8 < i := fun zz9 => c86 ((nI_ltI (a := 8) (b := i) (by omega) (by omega)).mpr zz9)
        refine r_aload_5 d_X9_lost_89 ?_
        refine r_get d_X9_lost_91 s6_bundle z9 rfl ?_
        refine r_iload_8 d_X9_lost_94 ?_
        refine r_isub d_X9_lost_96 ?_
        rw [pk_sub (a := n) (b := i) (by omega)]
        refine r_push (v := nI 4) d_X9_lost_97 ?_
        refine r_icmp_lt d_X9_lost_98 (fun c98 => ?_) (fun c98 => ?_)
        · -- taken at 98
          have c98 : (n - i) < 4 := (nI_ltI (a := (n - i)) (b := 4) (by omega) (by omega)).mp c98
          exact K _ _ _ _ hl4 ho1
        · -- not taken at 98
          have c98 : ¬ (n - i) < 4 := fun zz9 => c98 ((nI_ltI (a := (n - i)) (b := 4) (by omega) (by omega)).mpr zz9)
          exfalso; omega
    · have z9 := (pmX_ne (h := h) (xi := xi) (xl := x1) (xc := xc) (XA := A1) (XB := B1) (a := 68 + j) (by omega)).trans z
      refine r_iload_8 d_X9_lost_82 ?_
      refine r_push (v := nI 8) d_X9_lost_84 ?_
      refine r_icmp_gt d_X9_lost_86 (fun c86 => ?_) (fun c86 => ?_)
      · -- taken at 86
        have c86 : 8 < i := (nI_ltI (a := 8) (b := i) (by omega) (by omega)).mp c86
        exact K _ _ _ _ hl4 ho1
      · -- not taken at 86
        have c86 : ¬ 8 < i := fun zz9 => c86 ((nI_ltI (a := 8) (b := i) (by omega) (by omega)).mpr zz9)
        refine r_aload_5 d_X9_lost_89 ?_
        refine r_get d_X9_lost_91 s7_bundle z9 rfl ?_
        refine r_iload_8 d_X9_lost_94 ?_
        refine r_isub d_X9_lost_96 ?_
        rw [pk_sub (a := n) (b := i) (by omega)]
        refine r_push (v := nI 4) d_X9_lost_97 ?_
        refine r_icmp_lt d_X9_lost_98 (fun c98 => ?_) (fun c98 => ?_)
        · -- taken at 98
          have c98 : (n - i) < 4 := (nI_ltI (a := (n - i)) (b := 4) (by omega) (by omega)).mp c98
          exact K _ _ _ _ hl4 ho1
        · -- not taken at 98
          have c98 : ¬ (n - i) < 4 := fun zz9 => c98 ((nI_ltI (a := (n - i)) (b := 4) (by omega) (by omega)).mpr zz9)
          exfalso; omega
  | succ d ih =>
    intro i x1 A1 B1 o9 hid hl4 ho1
    have hl1 := x_nr_le (off := off) (i := i) (fun j hj => hle j (by omega))
    have hl2 := hle i (by omega)
    have hnr := x_nr_s (off := off) (hle 0 (by omega)) i
    have K1 := fun x1 A1 B1 o6 h1 h2 => ih (i + 1) x1 A1 B1 o6 (by omega) h1 h2
    have eo : sp_off cv ct (kd, n - i, k, f, lo, hi) = off i := by rw [ho]; rfl
    rw [hnr] at K1
    clear ih hnr
    generalize x_nr off i = s at hl1 K1 ⊢
    generalize off i = w9 at hl2 K1 eo
    obtain ⟨w1, w2, w3⟩ : 0 < (sp_Wc (kd, n - i, k, f, lo, hi)).2 ∧ (sp_Wc (kd, n - i, k, f, lo, hi)).2 < 2 ^ 40 ∧ sp_sum (sp_Wc (kd, n - i, k, f, lo, hi)).1 31 = (sp_Wc (kd, n - i, k, f, lo, hi)).2 := sp_Wt_ok (hfk i (by omega))
    have hq1 : ∀ j, j < 31 → A1 18 j = nI (sp_rp cv ct j) := fun j hj => by rw [ho1 18 (by decide)]; exact hq j hj
    have hcs0 := hcs
    rcases hcs with ⟨e, z⟩ | ⟨e, z⟩ | ⟨e, e1, e2, ok, z⟩ | ⟨e, ok, z⟩
    · exfalso; omega
    · exfalso; omega
    · have z9 := (pmX_ne (h := h) (xi := xi) (xl := x1) (xc := xc) (XA := A1) (XB := B1) (a := 68 + j) (by omega)).trans z
      refine r_iload_8 d_X9_lost_82 ?_
      refine r_push (v := nI 8) d_X9_lost_84 ?_
      refine r_icmp_gt d_X9_lost_86 (fun c86 => ?_) (fun c86 => ?_)
      · -- taken at 86
        have c86 : 8 < i := (nI_ltI (a := 8) (b := i) (by omega) (by omega)).mp c86
        exfalso; omega
      · -- not taken at 86
        have c86 : ¬ 8 < i := fun zz9 => c86 ((nI_ltI (a := 8) (b := i) (by omega) (by omega)).mpr zz9)
        refine r_aload_5 d_X9_lost_89 ?_
        refine r_get d_X9_lost_91 s6_bundle z9 rfl ?_
        refine r_iload_8 d_X9_lost_94 ?_
        refine r_isub d_X9_lost_96 ?_
        rw [pk_sub (a := n) (b := i) (by omega)]
        refine r_push (v := nI 4) d_X9_lost_97 ?_
        refine r_icmp_lt d_X9_lost_98 (fun c98 => ?_) (fun c98 => ?_)
        · -- taken at 98
          have c98 : (n - i) < 4 := (nI_ltI (a := (n - i)) (b := 4) (by omega) (by omega)).mp c98
          exfalso; omega
        · -- not taken at 98
          have c98 : ¬ (n - i) < 4 := fun zz9 => c98 ((nI_ltI (a := (n - i)) (b := 4) (by omega) (by omega)).mpr zz9)
          refine r_aload_5 d_X9_lost_101 ?_
          refine r_aload_5 d_X9_lost_103 ?_
          refine r_get d_X9_lost_105 s6_bundle z9 rfl ?_
          refine r_iload_8 d_X9_lost_108 ?_
          refine r_isub d_X9_lost_110 ?_
          rw [pk_sub (a := n) (b := i) (by omega)]
          refine r_aload_0 d_X9_lost_111 ?_
          refine r_get d_X9_lost_112 s9_odds rfl rfl ?_
          refine w_X9_lost_115 hcs0 hkd (m := n - i) ⟨by omega, by omega⟩ (fun W Hp Nx hag => ?_)
          refine r_aload_0 d_X9_lost_118 ?_
          refine r_V0 d_X9_lost_119 (c_X9_weighedDiffer (q := sp_rp cv ct) ⟨w1, w2⟩ (x_Wle hag w3) hq1 hqs) rfl rfl rfl ⟨rfl, rfl⟩ (Nat.le_of_ble_eq_true rfl) ?_
          rw [x_offe hag, eo, pmX_O]
          refine r_istore_9 d_X9_lost_122 (Nat.le_of_ble_eq_true rfl) (fun w hw => by cases hw <;> rfl) ?_
          refine r_iload_9 d_X9_lost_124 ?_
          refine r_iload_7 d_X9_lost_126 ?_
          refine r_icmp_ge d_X9_lost_128 (fun c128 => ?_) (fun c128 => ?_)
          · -- taken at 128
            have c128 : s.2 ≤ w9 := (nI_leI (a := s.2) (b := w9) (by omega) (by omega)).mp c128
            refine r_iinc_8 d_X9_lost_139 (Nat.le_of_ble_eq_true rfl) (fun w hw => by cases hw <;> rfl) ?_
            rw [nI_1]
            refine r_goto d_X9_lost_142 ?_
            first
            | (rw [if_neg (by omega)] at K1; exact K1 _ _ _ _ (x_l4_s hl4) (x_o1_s ho1))
            | (rw [if_pos (by omega)] at K1; exact K1 _ _ _ _ (x_l4_s hl4) (x_o1_s ho1))
          · -- not taken at 128
            have c128 : ¬ s.2 ≤ w9 := fun zz9 => c128 ((nI_leI (a := s.2) (b := w9) (by omega) (by omega)).mpr zz9)
            refine r_iload_9 d_X9_lost_131 ?_
            refine r_istore_7 d_X9_lost_133 (Nat.le_of_ble_eq_true rfl) (fun w hw => by cases hw <;> rfl) ?_
            refine r_iload_8 d_X9_lost_135 ?_
            refine r_istore_6 d_X9_lost_137 (Nat.le_of_ble_eq_true rfl) (fun w hw => by cases hw <;> rfl) ?_
            refine r_iinc_8 d_X9_lost_139 (Nat.le_of_ble_eq_true rfl) (fun w hw => by cases hw <;> rfl) ?_
            rw [nI_1]
            refine r_goto d_X9_lost_142 ?_
            first
            | (rw [if_neg (by omega)] at K1; exact K1 _ _ _ _ (x_l4_s hl4) (x_o1_s ho1))
            | (rw [if_pos (by omega)] at K1; exact K1 _ _ _ _ (x_l4_s hl4) (x_o1_s ho1))
    · have z9 := (pmX_ne (h := h) (xi := xi) (xl := x1) (xc := xc) (XA := A1) (XB := B1) (a := 68 + j) (by omega)).trans z
      refine r_iload_8 d_X9_lost_82 ?_
      refine r_push (v := nI 8) d_X9_lost_84 ?_
      refine r_icmp_gt d_X9_lost_86 (fun c86 => ?_) (fun c86 => ?_)
      · -- taken at 86
        have c86 : 8 < i := (nI_ltI (a := 8) (b := i) (by omega) (by omega)).mp c86
        exfalso; omega
      · -- not taken at 86
        have c86 : ¬ 8 < i := fun zz9 => c86 ((nI_ltI (a := 8) (b := i) (by omega) (by omega)).mpr zz9)
        refine r_aload_5 d_X9_lost_89 ?_
        refine r_get d_X9_lost_91 s7_bundle z9 rfl ?_
        refine r_iload_8 d_X9_lost_94 ?_
        refine r_isub d_X9_lost_96 ?_
        rw [pk_sub (a := n) (b := i) (by omega)]
        refine r_push (v := nI 4) d_X9_lost_97 ?_
        refine r_icmp_lt d_X9_lost_98 (fun c98 => ?_) (fun c98 => ?_)
        · -- taken at 98
          have c98 : (n - i) < 4 := (nI_ltI (a := (n - i)) (b := 4) (by omega) (by omega)).mp c98
          exfalso; omega
        · -- not taken at 98
          have c98 : ¬ (n - i) < 4 := fun zz9 => c98 ((nI_ltI (a := (n - i)) (b := 4) (by omega) (by omega)).mpr zz9)
          refine r_aload_5 d_X9_lost_101 ?_
          refine r_aload_5 d_X9_lost_103 ?_
          refine r_get d_X9_lost_105 s7_bundle z9 rfl ?_
          refine r_iload_8 d_X9_lost_108 ?_
          refine r_isub d_X9_lost_110 ?_
          rw [pk_sub (a := n) (b := i) (by omega)]
          refine r_aload_0 d_X9_lost_111 ?_
          refine r_get d_X9_lost_112 s9_odds rfl rfl ?_
          refine w_X9_lost_115 hcs0 hkd (m := n - i) ⟨by omega, by omega⟩ (fun W Hp Nx hag => ?_)
          refine r_aload_0 d_X9_lost_118 ?_
          refine r_V0 d_X9_lost_119 (c_X9_weighedDiffer (q := sp_rp cv ct) ⟨w1, w2⟩ (x_Wle hag w3) hq1 hqs) rfl rfl rfl ⟨rfl, rfl⟩ (Nat.le_of_ble_eq_true rfl) ?_
          rw [x_offe hag, eo, pmX_O]
          refine r_istore_9 d_X9_lost_122 (Nat.le_of_ble_eq_true rfl) (fun w hw => by cases hw <;> rfl) ?_
          refine r_iload_9 d_X9_lost_124 ?_
          refine r_iload_7 d_X9_lost_126 ?_
          refine r_icmp_ge d_X9_lost_128 (fun c128 => ?_) (fun c128 => ?_)
          · -- taken at 128
            have c128 : s.2 ≤ w9 := (nI_leI (a := s.2) (b := w9) (by omega) (by omega)).mp c128
            refine r_iinc_8 d_X9_lost_139 (Nat.le_of_ble_eq_true rfl) (fun w hw => by cases hw <;> rfl) ?_
            rw [nI_1]
            refine r_goto d_X9_lost_142 ?_
            first
            | (rw [if_neg (by omega)] at K1; exact K1 _ _ _ _ (x_l4_s hl4) (x_o1_s ho1))
            | (rw [if_pos (by omega)] at K1; exact K1 _ _ _ _ (x_l4_s hl4) (x_o1_s ho1))
          · -- not taken at 128
            have c128 : ¬ s.2 ≤ w9 := fun zz9 => c128 ((nI_leI (a := s.2) (b := w9) (by omega) (by omega)).mpr zz9)
            refine r_iload_9 d_X9_lost_131 ?_
            refine r_istore_7 d_X9_lost_133 (Nat.le_of_ble_eq_true rfl) (fun w hw => by cases hw <;> rfl) ?_
            refine r_iload_8 d_X9_lost_135 ?_
            refine r_istore_6 d_X9_lost_137 (Nat.le_of_ble_eq_true rfl) (fun w hw => by cases hw <;> rfl) ?_
            refine r_iinc_8 d_X9_lost_139 (Nat.le_of_ble_eq_true rfl) (fun w hw => by cases hw <;> rfl) ?_
            rw [nI_1]
            refine r_goto d_X9_lost_142 ?_
            first
            | (rw [if_neg (by omega)] at K1; exact K1 _ _ _ _ (x_l4_s hl4) (x_o1_s ho1))
            | (rw [if_pos (by omega)] at K1; exact K1 _ _ _ _ (x_l4_s hl4) (x_o1_s ho1))
set_option maxRecDepth 10000 in
set_option maxHeartbeats 4000000 in
theorem c_X9_lost {h : pm_H} {xi : Nat → Int32} {xl : Nat → Int64} {xc : Nat → Option Nat} {XA : Nat → Nat → Int32} {XB : Nat → Nat → Int64} {r j : Nat} {cn : Nat} {C : Nat → sp_Cs} (hCC : x_CC h xi xc cn C) (hr : r < 4) (hj : j < cn) {z : Nat} (hz : xi (3 + r) = nI z) (hz64 : z ≤ 64) (hpk : sp_pk (C j).1 = true) (hct : 0 < (sp_cn (XA (37 + 2 * r)) z)) : pm_Cl e_X9_lost [.ref 1, .int (nI r), .int (nI j)] (pmX h xi xl xc XA XB) (fun v9 h1 => v9 = some (.int (nI (sp_nr (fun d => sp_off (fun j => sp_cv (XA (37 + 2 * r)) j z) (sp_cn (XA (37 + 2 * r)) z) (sp_fw (C j) d)) (min 8 ((C j).2.1 - 4))).1)) ∧ ∃ x1 A1 B1, h1 = pmX h xi x1 xc A1 B1 ∧ x_l4 xl x1 ∧ ∀ q, q ≠ 17 → q ≠ 18 → A1 q = XA q) := by
  have hA : pm_Cv e_X9_casterAt [.ref 1, .int (nI j)] (pmX h xi xl xc XA XB) (.ref (68 + j)) (pmX h xi xl xc XA XB) := c_X9_casterAt hCC hj
  have hcs := (hCC.2.2 j hj).2
  generalize C j = q9 at hcs hpk ⊢
  obtain ⟨kd, n, k, f, lo, hi⟩ := q9
  change pm_cs h (68 + j) kd n k f lo hi at hcs
  change sp_pk kd = true at hpk
  have hcs0 := hcs
  rcases hcs with ⟨e, zc⟩ | ⟨e, zc⟩ | ⟨e, e1, e2, ok, zc⟩ | ⟨e, ok, zc⟩
  · subst e; cases hpk
  · subst e; cases hpk
  · subst e
    have z9 := (pmX_ne (h := h) (xi := xi) (xl := xl) (xc := xc) (XA := XA) (XB := XB) (a := 68 + j) (by omega)).trans zc
    refine pm_enter rfl (Nat.le_of_ble_eq_true rfl) ?_
    show pm_V e_X9_lost 0 [some (.ref 1), some (.int (nI r)), some (.int (nI j)), none, none, none, none, none, none, none] [] (pmX h xi xl xc XA XB) (0, 0) _
    refine r_aload_0 d_X9_lost_0 ?_
    refine r_iload_1 d_X9_lost_1 ?_
    refine r_V1 d_X9_lost_2 (c_X9_rowAt hr) rfl rfl rfl ⟨rfl, rfl⟩ (Nat.le_of_ble_eq_true rfl) ?_
    refine r_astore_3 d_X9_lost_5 (Nat.le_of_ble_eq_true rfl) (fun w hw => by cases hw <;> rfl) ?_
    refine r_aload_0 d_X9_lost_6 ?_
    refine r_iload_2 d_X9_lost_7 ?_
    refine r_V1 d_X9_lost_8 hA rfl rfl rfl ⟨rfl, rfl⟩ (Nat.le_of_ble_eq_true rfl) ?_
    refine r_astore_4 d_X9_lost_11 (Nat.le_of_ble_eq_true rfl) (fun w hw => by cases hw <;> rfl) ?_
    refine r_aload_3 d_X9_lost_13 ?_
    refine r_ifnull d_X9_lost_14 ?_
    refine r_aload_4 d_X9_lost_17 ?_
    refine r_ifnonnull d_X9_lost_19 ?_
    refine r_aload_3 d_X9_lost_24 ?_
    refine r_V0 d_X9_lost_25 (c_X0_isThere (x_row hr hz)) (x_row hr hz) rfl rfl ⟨rfl, rfl⟩ (Nat.le_of_ble_eq_true rfl) ?_
    rw [x_th hz64]
    change pm_V _ _ _ (.int (nI 1) :: _) _ _ _
    refine r_if_ne d_X9_lost_28 (fun c28 => ?_) (fun c28 => absurd c28 (by decide))
    clear c28
    refine r_aload_4 d_X9_lost_37 ?_
    refine r_S1 d_X9_lost_39 (c_X9_asStalks6 z9) ⟨rfl, rfl⟩ (Nat.le_of_ble_eq_true rfl) ?_
    refine r_astore_5 d_X9_lost_42 (Nat.le_of_ble_eq_true rfl) (fun w hw => by cases hw <;> rfl) ?_
    refine r_aload_5 d_X9_lost_44 ?_
    refine r_ifnonnull d_X9_lost_46 ?_
    refine r_aload_3 d_X9_lost_55 ?_
    refine r_aload_0 d_X9_lost_56 ?_
    refine r_get d_X9_lost_57 s9_otherParts rfl rfl ?_
    refine r_V1p d_X9_lost_60 (c_X0_partsInto (f := XA 18) (x_row hr hz) (xr_l hr) hz64 (by omega) (by omega) rfl) (x_row hr hz) rfl rfl ⟨rfl, rfl⟩ (Nat.le_of_ble_eq_true rfl) ?_
    rintro v9 h9 (⟨e0, -, -⟩ | ⟨-, rfl, rfl⟩)
    · exfalso; omega
    rw [pmX_18]
    change pm_V _ _ _ (.int (nI 1) :: _) _ _ _
    refine r_if_ne d_X9_lost_63 (fun c63 => ?_) (fun c63 => absurd c63 (by decide))
    clear c63
    refine r_push (v := nI 0) d_X9_lost_72 ?_
    refine r_istore_6 d_X9_lost_73 (Nat.le_of_ble_eq_true rfl) (fun w hw => by cases hw <;> rfl) ?_
    refine r_push (v := nI 2000001) d_X9_lost_75 ?_
    refine r_istore_7 d_X9_lost_77 (Nat.le_of_ble_eq_true rfl) (fun w hw => by cases hw <;> rfl) ?_
    refine r_push (v := nI 0) d_X9_lost_79 ?_
    refine r_istore_8 d_X9_lost_80 (Nat.le_of_ble_eq_true rfl) (fun w hw => by cases hw <;> rfl) ?_
    refine lp_X9_lost (xl := xl) (XA := (va_up XA 18 (pm_fc (fun j => nI (1000000 * sp_cv (XA (37 + 2 * r)) j z / (sp_cn (XA (37 + 2 * r)) z))) (pm_fc (fun j => nI (sp_cv (XA (37 + 2 * r)) j z)) (XA 18) 31) 31))) (XB := XB) (cv := (fun j => sp_cv (XA (37 + 2 * r)) j z)) (ct := (sp_cn (XA (37 + 2 * r)) z)) (off := (fun d => sp_off (fun j => sp_cv (XA (37 + 2 * r)) j z) (sp_cn (XA (37 + 2 * r)) z) (sp_fw (1, n, k, f, lo, hi) d))) hcs0 (by decide) x_rp (x_rpl hct) hct (sp_cv_sum _ _) rfl (fun x1 A1 B1 o6 h4 h17 => ?_) (min 8 (n - 4) + 1) 0 xl _ XB none (by omega) (fun q _ => rfl) (fun q _ => rfl)
    refine r_iload_6 d_X9_lost_145 ?_
    refine r_ireturn d_X9_lost_147 ⟨_, rfl, rfl⟩ ?_
    exact ⟨rfl, x1, A1, B1, rfl, h4, fun q hq1 hq2 => (h17 q hq1).trans (if_neg hq2)⟩
  · subst e
    have z9 := (pmX_ne (h := h) (xi := xi) (xl := xl) (xc := xc) (XA := XA) (XB := XB) (a := 68 + j) (by omega)).trans zc
    refine pm_enter rfl (Nat.le_of_ble_eq_true rfl) ?_
    show pm_V e_X9_lost 0 [some (.ref 1), some (.int (nI r)), some (.int (nI j)), none, none, none, none, none, none, none] [] (pmX h xi xl xc XA XB) (0, 0) _
    refine r_aload_0 d_X9_lost_0 ?_
    refine r_iload_1 d_X9_lost_1 ?_
    refine r_V1 d_X9_lost_2 (c_X9_rowAt hr) rfl rfl rfl ⟨rfl, rfl⟩ (Nat.le_of_ble_eq_true rfl) ?_
    refine r_astore_3 d_X9_lost_5 (Nat.le_of_ble_eq_true rfl) (fun w hw => by cases hw <;> rfl) ?_
    refine r_aload_0 d_X9_lost_6 ?_
    refine r_iload_2 d_X9_lost_7 ?_
    refine r_V1 d_X9_lost_8 hA rfl rfl rfl ⟨rfl, rfl⟩ (Nat.le_of_ble_eq_true rfl) ?_
    refine r_astore_4 d_X9_lost_11 (Nat.le_of_ble_eq_true rfl) (fun w hw => by cases hw <;> rfl) ?_
    refine r_aload_3 d_X9_lost_13 ?_
    refine r_ifnull d_X9_lost_14 ?_
    refine r_aload_4 d_X9_lost_17 ?_
    refine r_ifnonnull d_X9_lost_19 ?_
    refine r_aload_3 d_X9_lost_24 ?_
    refine r_V0 d_X9_lost_25 (c_X0_isThere (x_row hr hz)) (x_row hr hz) rfl rfl ⟨rfl, rfl⟩ (Nat.le_of_ble_eq_true rfl) ?_
    rw [x_th hz64]
    change pm_V _ _ _ (.int (nI 1) :: _) _ _ _
    refine r_if_ne d_X9_lost_28 (fun c28 => ?_) (fun c28 => absurd c28 (by decide))
    clear c28
    refine r_aload_4 d_X9_lost_37 ?_
    refine r_S1 d_X9_lost_39 (c_X9_asStalks7 z9) ⟨rfl, rfl⟩ (Nat.le_of_ble_eq_true rfl) ?_
    refine r_astore_5 d_X9_lost_42 (Nat.le_of_ble_eq_true rfl) (fun w hw => by cases hw <;> rfl) ?_
    refine r_aload_5 d_X9_lost_44 ?_
    refine r_ifnonnull d_X9_lost_46 ?_
    refine r_aload_3 d_X9_lost_55 ?_
    refine r_aload_0 d_X9_lost_56 ?_
    refine r_get d_X9_lost_57 s9_otherParts rfl rfl ?_
    refine r_V1p d_X9_lost_60 (c_X0_partsInto (f := XA 18) (x_row hr hz) (xr_l hr) hz64 (by omega) (by omega) rfl) (x_row hr hz) rfl rfl ⟨rfl, rfl⟩ (Nat.le_of_ble_eq_true rfl) ?_
    rintro v9 h9 (⟨e0, -, -⟩ | ⟨-, rfl, rfl⟩)
    · exfalso; omega
    rw [pmX_18]
    change pm_V _ _ _ (.int (nI 1) :: _) _ _ _
    refine r_if_ne d_X9_lost_63 (fun c63 => ?_) (fun c63 => absurd c63 (by decide))
    clear c63
    refine r_push (v := nI 0) d_X9_lost_72 ?_
    refine r_istore_6 d_X9_lost_73 (Nat.le_of_ble_eq_true rfl) (fun w hw => by cases hw <;> rfl) ?_
    refine r_push (v := nI 2000001) d_X9_lost_75 ?_
    refine r_istore_7 d_X9_lost_77 (Nat.le_of_ble_eq_true rfl) (fun w hw => by cases hw <;> rfl) ?_
    refine r_push (v := nI 0) d_X9_lost_79 ?_
    refine r_istore_8 d_X9_lost_80 (Nat.le_of_ble_eq_true rfl) (fun w hw => by cases hw <;> rfl) ?_
    refine lp_X9_lost (xl := xl) (XA := (va_up XA 18 (pm_fc (fun j => nI (1000000 * sp_cv (XA (37 + 2 * r)) j z / (sp_cn (XA (37 + 2 * r)) z))) (pm_fc (fun j => nI (sp_cv (XA (37 + 2 * r)) j z)) (XA 18) 31) 31))) (XB := XB) (cv := (fun j => sp_cv (XA (37 + 2 * r)) j z)) (ct := (sp_cn (XA (37 + 2 * r)) z)) (off := (fun d => sp_off (fun j => sp_cv (XA (37 + 2 * r)) j z) (sp_cn (XA (37 + 2 * r)) z) (sp_fw (3, n, k, f, lo, hi) d))) hcs0 (by decide) x_rp (x_rpl hct) hct (sp_cv_sum _ _) rfl (fun x1 A1 B1 o6 h4 h17 => ?_) (min 8 (n - 4) + 1) 0 xl _ XB none (by omega) (fun q _ => rfl) (fun q _ => rfl)
    refine r_iload_6 d_X9_lost_145 ?_
    refine r_ireturn d_X9_lost_147 ⟨_, rfl, rfl⟩ ?_
    exact ⟨rfl, x1, A1, B1, rfl, h4, fun q hq1 hq2 => (h17 q hq1).trans (if_neg hq2)⟩
