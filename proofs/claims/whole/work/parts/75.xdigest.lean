theorem c_X9_told4 {h : pm_H} {xi : Nat → Int32} {xl : Nat → Int64} {xc : Nat → Option Nat} {XA : Nat → Nat → Int32} {XB : Nat → Nat → Int64} {cn : Nat} {C : Nat → sp_Cs} (hCC : x_CC h xi xc cn C) {i w : Nat} (hi9 : i < cn) (hw : w < 4) : pm_Cv e_X9_told [.ref 1, .int (nI i), .int (nI w)] (pmX h xi xl xc XA XB) (.int (sp_tell (C i) (nI w))) (pmX h xi xl xc XA XB) := by
  have hz := c_X9_told (xl := xl) (XA := XA) (XB := XB) hCC (c := nI i) (w := nI w)
  have hn10 := hCC.2.1
  rw [pm_ci_of hi9 (by omega)] at hz
  have hin : sp_in (nI w) 0 3 = true := by
    rcases (show w = 0 ∨ w = 1 ∨ w = 2 ∨ w = 3 by omega) with rfl | rfl | rfl | rfl <;> rfl
  rw [show sp_told (Option.map C (some i)) (nI w) = .inl (sp_tell (C i) (nI w)) from if_pos hin] at hz
  exact hz
set_option maxRecDepth 10000 in
set_option maxHeartbeats 4000000 in
theorem lp_X9_digest {h : pm_H} {xi : Nat → Int32} {xl : Nat → Int64} {xc : Nat → Option Nat} {XA : Nat → Nat → Int32} {XB : Nat → Nat → Int64} {cn : Nat} {C : Nat → sp_Cs} (hCC : x_CC h xi xc cn C) {F : Option Value → pm_H → Prop} {b : Nat × Nat} (K : ∀ o, pm_V e_X9_digest 50 [some (.ref 1), some (.long (sp_dc C cn 17)), none, some (.int (nI cn)), o] [] (pmX h xi xl xc XA XB) b F) : ∀ (d i : Nat), i + d = cn → ∀ o, pm_V e_X9_digest 6 [some (.ref 1), some (.long (sp_dc C i 17)), none, some (.int (nI i)), o] [] (pmX h xi xl xc XA XB) b F := by
  have hCC0 := hCC
  obtain ⟨hcn, hn10, hC⟩ := hCC
  intro d
  induction d with
  | zero =>
    intro i hid o
    obtain rfl : i = cn := by omega
    refine r_iload_3 d_X9_digest_6 ?_
    refine r_aload_0 d_X9_digest_7 ?_
    refine r_get d_X9_digest_8 s9_casterCount rfl rfl ?_
    rw [hcn]
    refine r_icmp_ge d_X9_digest_11 (fun c11 => ?_) (fun c11 => ?_)
    · -- taken at 11
      have c11 : i ≤ i := (nI_leI (a := i) (b := i) (by omega) (by omega)).mp c11
      exact K _
    · -- not taken at 11
      have c11 : ¬ i ≤ i := fun zz9 => c11 ((nI_leI (a := i) (b := i) (by omega) (by omega)).mpr zz9)
      exfalso; omega
  | succ d ih =>
    intro i hid o
    have ih9 := ih (i + 1) (by omega)
    rw [show sp_dc C (i + 1) 17 = sp_df (fun w => sp_tell (C i) (nI w)) 4 (sp_dc C i 17) from rfl, sp_df4] at ih9
    generalize sp_dc C i 17 = x9 at ih9 ⊢
    refine r_iload_3 d_X9_digest_6 ?_
    refine r_aload_0 d_X9_digest_7 ?_
    refine r_get d_X9_digest_8 s9_casterCount rfl rfl ?_
    rw [hcn]
    refine r_icmp_ge d_X9_digest_11 (fun c11 => ?_) (fun c11 => ?_)
    · -- taken at 11
      have c11 : cn ≤ i := (nI_leI (a := cn) (b := i) (by omega) (by omega)).mp c11
      exfalso; omega
    · -- not taken at 11
      have c11 : ¬ cn ≤ i := fun zz9 => c11 ((nI_leI (a := cn) (b := i) (by omega) (by omega)).mpr zz9)
      refine r_push (v := nI 0) d_X9_digest_14 ?_
      refine r_istore_4 d_X9_digest_15 (Nat.le_of_ble_eq_true rfl) (fun w hw => by cases hw <;> rfl) ?_
      refine r_iload_4 d_X9_digest_17 ?_
      refine r_push (v := nI 3) d_X9_digest_19 ?_
      refine r_icmp_gt d_X9_digest_20 (fun c20 => absurd c20 (by decide)) (fun c20 => ?_)
      clear c20
      refine r_pushl d_X9_digest_23 ?_
      refine r_lload_1 d_X9_digest_26 ?_
      refine r_lmul d_X9_digest_27 ?_
      refine r_aload_0 d_X9_digest_28 ?_
      refine r_iload_3 d_X9_digest_29 ?_
      refine r_iload_4 d_X9_digest_30 ?_
      refine r_V2 d_X9_digest_32 (c_X9_told4 hCC0 (by omega) (by decide)) rfl rfl rfl ⟨rfl, rfl⟩ (Nat.le_of_ble_eq_true rfl) ?_
      refine r_i2l d_X9_digest_35 ?_
      refine r_ladd d_X9_digest_36 ?_
      rw [← sp_d1_eq]
      refine r_lstore_1 d_X9_digest_37 (Nat.le_of_ble_eq_true rfl) (fun w hw => by cases hw <;> rfl) ?_
      refine r_iinc_4 d_X9_digest_38 (Nat.le_of_ble_eq_true rfl) (fun w hw => by cases hw <;> rfl) ?_
      rw [show nI 0 + 1 = nI 1 from rfl]
      refine r_goto d_X9_digest_41 ?_
      refine r_iload_4 d_X9_digest_17 ?_
      refine r_push (v := nI 3) d_X9_digest_19 ?_
      refine r_icmp_gt d_X9_digest_20 (fun c20 => absurd c20 (by decide)) (fun c20 => ?_)
      clear c20
      refine r_pushl d_X9_digest_23 ?_
      refine r_lload_1 d_X9_digest_26 ?_
      refine r_lmul d_X9_digest_27 ?_
      refine r_aload_0 d_X9_digest_28 ?_
      refine r_iload_3 d_X9_digest_29 ?_
      refine r_iload_4 d_X9_digest_30 ?_
      refine r_V2 d_X9_digest_32 (c_X9_told4 hCC0 (by omega) (by decide)) rfl rfl rfl ⟨rfl, rfl⟩ (Nat.le_of_ble_eq_true rfl) ?_
      refine r_i2l d_X9_digest_35 ?_
      refine r_ladd d_X9_digest_36 ?_
      rw [← sp_d1_eq]
      refine r_lstore_1 d_X9_digest_37 (Nat.le_of_ble_eq_true rfl) (fun w hw => by cases hw <;> rfl) ?_
      refine r_iinc_4 d_X9_digest_38 (Nat.le_of_ble_eq_true rfl) (fun w hw => by cases hw <;> rfl) ?_
      rw [show nI 1 + 1 = nI 2 from rfl]
      refine r_goto d_X9_digest_41 ?_
      refine r_iload_4 d_X9_digest_17 ?_
      refine r_push (v := nI 3) d_X9_digest_19 ?_
      refine r_icmp_gt d_X9_digest_20 (fun c20 => absurd c20 (by decide)) (fun c20 => ?_)
      clear c20
      refine r_pushl d_X9_digest_23 ?_
      refine r_lload_1 d_X9_digest_26 ?_
      refine r_lmul d_X9_digest_27 ?_
      refine r_aload_0 d_X9_digest_28 ?_
      refine r_iload_3 d_X9_digest_29 ?_
      refine r_iload_4 d_X9_digest_30 ?_
      refine r_V2 d_X9_digest_32 (c_X9_told4 hCC0 (by omega) (by decide)) rfl rfl rfl ⟨rfl, rfl⟩ (Nat.le_of_ble_eq_true rfl) ?_
      refine r_i2l d_X9_digest_35 ?_
      refine r_ladd d_X9_digest_36 ?_
      rw [← sp_d1_eq]
      refine r_lstore_1 d_X9_digest_37 (Nat.le_of_ble_eq_true rfl) (fun w hw => by cases hw <;> rfl) ?_
      refine r_iinc_4 d_X9_digest_38 (Nat.le_of_ble_eq_true rfl) (fun w hw => by cases hw <;> rfl) ?_
      rw [show nI 2 + 1 = nI 3 from rfl]
      refine r_goto d_X9_digest_41 ?_
      refine r_iload_4 d_X9_digest_17 ?_
      refine r_push (v := nI 3) d_X9_digest_19 ?_
      refine r_icmp_gt d_X9_digest_20 (fun c20 => absurd c20 (by decide)) (fun c20 => ?_)
      clear c20
      refine r_pushl d_X9_digest_23 ?_
      refine r_lload_1 d_X9_digest_26 ?_
      refine r_lmul d_X9_digest_27 ?_
      refine r_aload_0 d_X9_digest_28 ?_
      refine r_iload_3 d_X9_digest_29 ?_
      refine r_iload_4 d_X9_digest_30 ?_
      refine r_V2 d_X9_digest_32 (c_X9_told4 hCC0 (by omega) (by decide)) rfl rfl rfl ⟨rfl, rfl⟩ (Nat.le_of_ble_eq_true rfl) ?_
      refine r_i2l d_X9_digest_35 ?_
      refine r_ladd d_X9_digest_36 ?_
      rw [← sp_d1_eq]
      refine r_lstore_1 d_X9_digest_37 (Nat.le_of_ble_eq_true rfl) (fun w hw => by cases hw <;> rfl) ?_
      refine r_iinc_4 d_X9_digest_38 (Nat.le_of_ble_eq_true rfl) (fun w hw => by cases hw <;> rfl) ?_
      rw [show nI 3 + 1 = nI 4 from rfl]
      refine r_goto d_X9_digest_41 ?_
      refine r_iload_4 d_X9_digest_17 ?_
      refine r_push (v := nI 3) d_X9_digest_19 ?_
      refine r_icmp_gt d_X9_digest_20 (fun c20 => ?_) (fun c20 => absurd (by decide) c20)
      clear c20
      refine r_iinc_3 d_X9_digest_44 (Nat.le_of_ble_eq_true rfl) (fun w hw => by cases hw <;> rfl) ?_
      rw [nI_1]
      refine r_goto d_X9_digest_47 ?_
      exact ih9 _
set_option maxRecDepth 10000 in
set_option maxHeartbeats 4000000 in
theorem lq_X9_digest {h : pm_H} {xi : Nat → Int32} {xl : Nat → Int64} {xc : Nat → Option Nat} {XA : Nat → Nat → Int32} {XB : Nat → Nat → Int64} {x : Int64} {f : Nat} (hf : f < 8) {F : Option Value → pm_H → Prop} {b : Nat × Nat} (K : ∀ o, pm_V e_X9_digest 94 [some (.ref 1), some (.long (sp_df (XA (21 + 2 * f)) 6 x)), none, some (.int (nI f)), o] [] (pmX h xi xl xc XA XB) b F) : ∀ (d i : Nat), i + d = 6 → pm_V e_X9_digest 61 [some (.ref 1), some (.long (sp_df (XA (21 + 2 * f)) i x)), none, some (.int (nI f)), some (.int (nI i))] [] (pmX h xi xl xc XA XB) b F := by
  intro d
  induction d with
  | zero =>
    intro i hid
    obtain rfl : i = 6 := by omega
    refine r_iload_4 d_X9_digest_61 ?_
    refine r_push (v := nI 6) d_X9_digest_63 ?_
    refine r_icmp_ge d_X9_digest_65 (fun c65 => ?_) (fun c65 => absurd (by decide) c65)
    clear c65
    exact K _
  | succ d ih =>
    intro i hid
    refine r_iload_4 d_X9_digest_61 ?_
    refine r_push (v := nI 6) d_X9_digest_63 ?_
    refine r_icmp_ge d_X9_digest_65 (fun c65 => ?_) (fun c65 => ?_)
    · -- taken at 65
      have c65 : 6 ≤ i := (nI_leI (a := 6) (b := i) (by omega) (by omega)).mp c65
      exfalso; omega
    · -- not taken at 65
      have c65 : ¬ 6 ≤ i := fun zz9 => c65 ((nI_leI (a := 6) (b := i) (by omega) (by omega)).mpr zz9)
      refine r_pushl d_X9_digest_68 ?_
      refine r_lload_1 d_X9_digest_71 ?_
      refine r_lmul d_X9_digest_72 ?_
      refine r_aload_0 d_X9_digest_73 ?_
      refine r_get d_X9_digest_74 s9_figures rfl rfl ?_
      refine r_iload_3 d_X9_digest_77 ?_
      refine r_aaldRX3 d_X9_digest_78 rfl (pm_ixN (by omega) (by omega)) ?_
      rw [show x_fa f = some (20 + 2 * f) from if_pos hf]
      change pm_V _ _ _ (.ref (20 + 2 * f) :: _) _ _ _
      refine r_get d_X9_digest_79 s3_lines (xf_o hf) rfl ?_
      refine r_iload_4 d_X9_digest_82 ?_
      refine r_iald d_X9_digest_84 (xf_l hf) (pm_ixN (by omega) (by omega)) ?_
      refine r_i2l d_X9_digest_85 ?_
      refine r_ladd d_X9_digest_86 ?_
      rw [← sp_d1_eq]
      refine r_lstore_1 d_X9_digest_87 (Nat.le_of_ble_eq_true rfl) (fun w hw => by cases hw <;> rfl) ?_
      refine r_iinc_4 d_X9_digest_88 (Nat.le_of_ble_eq_true rfl) (fun w hw => by cases hw <;> rfl) ?_
      rw [nI_1]
      refine r_goto d_X9_digest_91 ?_
      have ih9 := ih (i + 1) (by omega)
      rw [sp_df_s] at ih9
      exact ih9
set_option maxRecDepth 10000 in
set_option maxHeartbeats 4000000 in
theorem lr_X9_digest {h : pm_H} {xi : Nat → Int32} {xl : Nat → Int64} {xc : Nat → Option Nat} {XA : Nat → Nat → Int32} {XB : Nat → Nat → Int64} {x : Int64} {F : Option Value → pm_H → Prop} {b : Nat × Nat} (K : ∀ o, pm_V e_X9_digest 100 [some (.ref 1), some (.long (sp_dg XA 8 x)), none, some (.int (nI 8)), o] [] (pmX h xi xl xc XA XB) b F) : ∀ (d f : Nat), f + d = 8 → ∀ o, pm_V e_X9_digest 52 [some (.ref 1), some (.long (sp_dg XA f x)), none, some (.int (nI f)), o] [] (pmX h xi xl xc XA XB) b F := by
  intro d
  induction d with
  | zero =>
    intro f hid o
    obtain rfl : f = 8 := by omega
    refine r_iload_3 d_X9_digest_52 ?_
    refine r_push (v := nI 8) d_X9_digest_53 ?_
    refine r_icmp_ge d_X9_digest_55 (fun c55 => ?_) (fun c55 => absurd (by decide) c55)
    clear c55
    exact K _
  | succ d ih =>
    intro f hid o
    have ih9 := ih (f + 1) (by omega)
    rw [show sp_dg XA (f + 1) x = sp_df (XA (21 + 2 * f)) 6 (sp_dg XA f x) from rfl] at ih9
    refine r_iload_3 d_X9_digest_52 ?_
    refine r_push (v := nI 8) d_X9_digest_53 ?_
    refine r_icmp_ge d_X9_digest_55 (fun c55 => ?_) (fun c55 => ?_)
    · -- taken at 55
      have c55 : 8 ≤ f := (nI_leI (a := 8) (b := f) (by omega) (by omega)).mp c55
      exfalso; omega
    · -- not taken at 55
      have c55 : ¬ 8 ≤ f := fun zz9 => c55 ((nI_leI (a := 8) (b := f) (by omega) (by omega)).mpr zz9)
      refine r_push (v := nI 0) d_X9_digest_58 ?_
      refine r_istore_4 d_X9_digest_59 (Nat.le_of_ble_eq_true rfl) (fun w hw => by cases hw <;> rfl) ?_
      refine lq_X9_digest (x := (sp_dg XA f x)) (by omega) (fun o => ?_) 6 0 (by omega)
      refine r_iinc_3 d_X9_digest_94 (Nat.le_of_ble_eq_true rfl) (fun w hw => by cases hw <;> rfl) ?_
      rw [nI_1]
      refine r_goto d_X9_digest_97 ?_
      exact ih9 _
set_option maxRecDepth 10000 in
set_option maxHeartbeats 4000000 in
theorem ls_X9_digest {h : pm_H} {xi : Nat → Int32} {xl : Nat → Int64} {xc : Nat → Option Nat} {XA : Nat → Nat → Int32} {XB : Nat → Nat → Int64} {x : Int64} {r z : Nat} (hr : r < 4) (hz : xi (3 + r) = nI z) (hz64 : z ≤ 64) {F : Option Value → pm_H → Prop} {b : Nat × Nat} (K : ∀ o, pm_V e_X9_digest 167 [some (.ref 1), some (.long (sp_df (XA (37 + 2 * r)) z x)), none, some (.int (nI r)), o] [] (pmX h xi xl xc XA XB) b F) : ∀ (d i : Nat), i + d = z → pm_V e_X9_digest 127 [some (.ref 1), some (.long (sp_df (XA (37 + 2 * r)) i x)), none, some (.int (nI r)), some (.int (nI i))] [] (pmX h xi xl xc XA XB) b F := by
  intro d
  induction d with
  | zero =>
    intro i hid
    obtain rfl : i = z := by omega
    refine r_iload_4 d_X9_digest_127 ?_
    refine r_aload_0 d_X9_digest_129 ?_
    refine r_get d_X9_digest_130 s9_rows rfl rfl ?_
    refine r_iload_3 d_X9_digest_133 ?_
    refine r_aaldRX0 d_X9_digest_134 rfl (pm_ixN (by omega) (by omega)) ?_
    rw [show x_ra r = some (36 + 2 * r) from if_pos hr]
    change pm_V _ _ _ (.ref (36 + 2 * r) :: _) _ _ _
    refine r_get d_X9_digest_135 s0_size (x_row hr hz) rfl ?_
    refine r_icmp_ge d_X9_digest_138 (fun c138 => ?_) (fun c138 => ?_)
    · -- taken at 138
      have c138 : i ≤ i := (nI_leI (a := i) (b := i) (by omega) (by omega)).mp c138
      exact K _
    · -- not taken at 138
      have c138 : ¬ i ≤ i := fun zz9 => c138 ((nI_leI (a := i) (b := i) (by omega) (by omega)).mpr zz9)
      exfalso; omega
  | succ d ih =>
    intro i hid
    refine r_iload_4 d_X9_digest_127 ?_
    refine r_aload_0 d_X9_digest_129 ?_
    refine r_get d_X9_digest_130 s9_rows rfl rfl ?_
    refine r_iload_3 d_X9_digest_133 ?_
    refine r_aaldRX0 d_X9_digest_134 rfl (pm_ixN (by omega) (by omega)) ?_
    rw [show x_ra r = some (36 + 2 * r) from if_pos hr]
    change pm_V _ _ _ (.ref (36 + 2 * r) :: _) _ _ _
    refine r_get d_X9_digest_135 s0_size (x_row hr hz) rfl ?_
    refine r_icmp_ge d_X9_digest_138 (fun c138 => ?_) (fun c138 => ?_)
    · -- taken at 138
      have c138 : z ≤ i := (nI_leI (a := z) (b := i) (by omega) (by omega)).mp c138
      exfalso; omega
    · -- not taken at 138
      have c138 : ¬ z ≤ i := fun zz9 => c138 ((nI_leI (a := z) (b := i) (by omega) (by omega)).mpr zz9)
      refine r_pushl d_X9_digest_141 ?_
      refine r_lload_1 d_X9_digest_144 ?_
      refine r_lmul d_X9_digest_145 ?_
      refine r_aload_0 d_X9_digest_146 ?_
      refine r_get d_X9_digest_147 s9_rows rfl rfl ?_
      refine r_iload_3 d_X9_digest_150 ?_
      refine r_aaldRX0 d_X9_digest_151 rfl (pm_ixN (by omega) (by omega)) ?_
      rw [show x_ra r = some (36 + 2 * r) from if_pos hr]
      change pm_V _ _ _ (.ref (36 + 2 * r) :: _) _ _ _
      refine r_get d_X9_digest_152 s0_bytes (x_row hr hz) rfl ?_
      refine r_iload_4 d_X9_digest_155 ?_
      refine r_bald d_X9_digest_157 (xr_l hr) (pm_ixN (by omega) (by omega)) ?_
      refine r_i2l d_X9_digest_158 ?_
      refine r_ladd d_X9_digest_159 ?_
      rw [← sp_d1_eq]
      refine r_lstore_1 d_X9_digest_160 (Nat.le_of_ble_eq_true rfl) (fun w hw => by cases hw <;> rfl) ?_
      refine r_iinc_4 d_X9_digest_161 (Nat.le_of_ble_eq_true rfl) (fun w hw => by cases hw <;> rfl) ?_
      rw [nI_1]
      refine r_goto d_X9_digest_164 ?_
      have ih9 := ih (i + 1) (by omega)
      rw [sp_df_s] at ih9
      exact ih9
set_option maxRecDepth 10000 in
set_option maxHeartbeats 4000000 in
theorem lt_X9_digest {h : pm_H} {xi : Nat → Int32} {xl : Nat → Int64} {xc : Nat → Option Nat} {XA : Nat → Nat → Int32} {XB : Nat → Nat → Int64} {rz : Nat → Option Nat} (hrz : x_rz xi rz) {x : Int64} {F : Option Value → pm_H → Prop} {b : Nat × Nat} (K : ∀ o, pm_V e_X9_digest 173 [some (.ref 1), some (.long (sp_dr rz (fun r => XA (37 + 2 * r)) 4 x)), none, some (.int (nI 4)), o] [] (pmX h xi xl xc XA XB) b F) : ∀ (d r : Nat), r + d = 4 → ∀ o, pm_V e_X9_digest 102 [some (.ref 1), some (.long (sp_dr rz (fun r => XA (37 + 2 * r)) r x)), none, some (.int (nI r)), o] [] (pmX h xi xl xc XA XB) b F := by
  intro d
  induction d with
  | zero =>
    intro r hid o
    obtain rfl : r = 4 := by omega
    refine r_iload_3 d_X9_digest_102 ?_
    refine r_push (v := nI 4) d_X9_digest_103 ?_
    refine r_icmp_ge d_X9_digest_104 (fun c104 => ?_) (fun c104 => absurd (by decide) c104)
    clear c104
    exact K _
  | succ d ih =>
    intro r hid o
    have hr : r < 4 := by omega
    have ih9 := ih (r + 1) (by omega)
    cases hx : rz r with
    | none =>
      have hz := x_rz_n hrz (by omega) hx
      rw [sp_dr_n hx] at ih9
      refine r_iload_3 d_X9_digest_102 ?_
      refine r_push (v := nI 4) d_X9_digest_103 ?_
      refine r_icmp_ge d_X9_digest_104 (fun c104 => ?_) (fun c104 => ?_)
      · -- taken at 104
        have c104 : 4 ≤ r := (nI_leI (a := 4) (b := r) (by omega) (by omega)).mp c104
        exfalso; omega
      · -- not taken at 104
        have c104 : ¬ 4 ≤ r := fun zz9 => c104 ((nI_leI (a := 4) (b := r) (by omega) (by omega)).mpr zz9)
        refine r_pushl d_X9_digest_107 ?_
        refine r_lload_1 d_X9_digest_110 ?_
        refine r_lmul d_X9_digest_111 ?_
        refine r_aload_0 d_X9_digest_112 ?_
        refine r_get d_X9_digest_113 s9_rows rfl rfl ?_
        refine r_iload_3 d_X9_digest_116 ?_
        refine r_aaldRX0 d_X9_digest_117 rfl (pm_ixN (by omega) (by omega)) ?_
        rw [show x_ra r = some (36 + 2 * r) from if_pos hr]
        change pm_V _ _ _ (.ref (36 + 2 * r) :: _) _ _ _
        refine r_get d_X9_digest_118 s0_size (x_row hr hz) rfl ?_
        refine r_i2l d_X9_digest_121 ?_
        refine r_ladd d_X9_digest_122 ?_
        rw [← sp_d1_eq]
        refine r_lstore_1 d_X9_digest_123 (Nat.le_of_ble_eq_true rfl) (fun w hw => by cases hw <;> rfl) ?_
        refine r_push (v := nI 0) d_X9_digest_124 ?_
        refine r_istore_4 d_X9_digest_125 (Nat.le_of_ble_eq_true rfl) (fun w hw => by cases hw <;> rfl) ?_
        refine r_iload_4 d_X9_digest_127 ?_
        refine r_aload_0 d_X9_digest_129 ?_
        refine r_get d_X9_digest_130 s9_rows rfl rfl ?_
        refine r_iload_3 d_X9_digest_133 ?_
        refine r_aaldRX0 d_X9_digest_134 rfl (pm_ixN (by omega) (by omega)) ?_
        rw [show x_ra r = some (36 + 2 * r) from if_pos hr]
        change pm_V _ _ _ (.ref (36 + 2 * r) :: _) _ _ _
        refine r_get d_X9_digest_135 s0_size (x_row hr hz) rfl ?_
        refine r_icmp_ge d_X9_digest_138 (fun c138 => ?_) (fun c138 => ?_)
        · -- taken at 138
          refine r_iinc_3 d_X9_digest_167 (Nat.le_of_ble_eq_true rfl) (fun w hw => by cases hw <;> rfl) ?_
          rw [nI_1]
          refine r_goto d_X9_digest_170 ?_
          exact ih9 _
        · -- not taken at 138
          exact absurd (show (-1 : Int32) ≤ nI 0 by decide) c138
    | some z =>
      obtain ⟨hz, hz64⟩ := x_rz_s hrz (by omega) hx
      rw [sp_dr_s hx] at ih9
      refine r_iload_3 d_X9_digest_102 ?_
      refine r_push (v := nI 4) d_X9_digest_103 ?_
      refine r_icmp_ge d_X9_digest_104 (fun c104 => ?_) (fun c104 => ?_)
      · -- taken at 104
        have c104 : 4 ≤ r := (nI_leI (a := 4) (b := r) (by omega) (by omega)).mp c104
        exfalso; omega
      · -- not taken at 104
        have c104 : ¬ 4 ≤ r := fun zz9 => c104 ((nI_leI (a := 4) (b := r) (by omega) (by omega)).mpr zz9)
        refine r_pushl d_X9_digest_107 ?_
        refine r_lload_1 d_X9_digest_110 ?_
        refine r_lmul d_X9_digest_111 ?_
        refine r_aload_0 d_X9_digest_112 ?_
        refine r_get d_X9_digest_113 s9_rows rfl rfl ?_
        refine r_iload_3 d_X9_digest_116 ?_
        refine r_aaldRX0 d_X9_digest_117 rfl (pm_ixN (by omega) (by omega)) ?_
        rw [show x_ra r = some (36 + 2 * r) from if_pos hr]
        change pm_V _ _ _ (.ref (36 + 2 * r) :: _) _ _ _
        refine r_get d_X9_digest_118 s0_size (x_row hr hz) rfl ?_
        refine r_i2l d_X9_digest_121 ?_
        refine r_ladd d_X9_digest_122 ?_
        rw [← sp_d1_eq]
        refine r_lstore_1 d_X9_digest_123 (Nat.le_of_ble_eq_true rfl) (fun w hw => by cases hw <;> rfl) ?_
        refine r_push (v := nI 0) d_X9_digest_124 ?_
        refine r_istore_4 d_X9_digest_125 (Nat.le_of_ble_eq_true rfl) (fun w hw => by cases hw <;> rfl) ?_
        refine ls_X9_digest hr hz hz64 (x := sp_d1 (sp_dr rz (fun r => XA (37 + 2 * r)) r x) (nI z)) (fun o => ?_) z 0 (by omega)
        refine r_iinc_3 d_X9_digest_167 (Nat.le_of_ble_eq_true rfl) (fun w hw => by cases hw <;> rfl) ?_
        rw [nI_1]
        refine r_goto d_X9_digest_170 ?_
        exact ih9 _
set_option maxRecDepth 10000 in
set_option maxHeartbeats 4000000 in
theorem c_X9_digest {h : pm_H} {xi : Nat → Int32} {xl : Nat → Int64} {xc : Nat → Option Nat} {XA : Nat → Nat → Int32} {XB : Nat → Nat → Int64} {cn : Nat} {C : Nat → sp_Cs} (hCC : x_CC h xi xc cn C) {rz : Nat → Option Nat} (hrz : x_rz xi rz) : pm_Cv e_X9_digest [.ref 1] (pmX h xi xl xc XA XB) (.long (sp_dr rz (fun r => XA (37 + 2 * r)) 4 (sp_dg XA 8 (sp_dc C cn 17)))) (pmX h xi xl xc XA XB) := by
  refine pm_enter rfl (Nat.le_of_ble_eq_true rfl) ?_
  show pm_V e_X9_digest 0 [some (.ref 1), none, none, none, none] [] (pmX h xi xl xc XA XB) (0, 0) _
  refine r_pushl d_X9_digest_0 ?_
  refine r_lstore_1 d_X9_digest_3 (Nat.le_of_ble_eq_true rfl) (fun w hw => by cases hw <;> rfl) ?_
  refine r_push (v := nI 0) d_X9_digest_4 ?_
  refine r_istore_3 d_X9_digest_5 (Nat.le_of_ble_eq_true rfl) (fun w hw => by cases hw <;> rfl) ?_
  refine lp_X9_digest hCC (fun o => ?_) cn 0 (by omega) none
  refine r_push (v := nI 0) d_X9_digest_50 ?_
  refine r_istore_3 d_X9_digest_51 (Nat.le_of_ble_eq_true rfl) (fun w hw => by cases hw <;> rfl) ?_
  refine lr_X9_digest (x := sp_dc C cn 17) (fun o => ?_) 8 0 (by omega) _
  refine r_push (v := nI 0) d_X9_digest_100 ?_
  refine r_istore_3 d_X9_digest_101 (Nat.le_of_ble_eq_true rfl) (fun w hw => by cases hw <;> rfl) ?_
  refine lt_X9_digest hrz (x := sp_dg XA 8 (sp_dc C cn 17)) (fun o => ?_) 4 0 (by omega) _
  refine r_lload_1 d_X9_digest_173 ?_
  refine r_lreturn d_X9_digest_174 rfl ?_
  exact ⟨rfl, rfl⟩
