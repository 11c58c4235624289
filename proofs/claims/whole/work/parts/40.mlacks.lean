theorem sp_bt1 (n m : Int64) : (n ||| m) ^^^ (-1) = (n ^^^ (-1)) &&& (m ^^^ (-1)) := by
  apply Int64.toBitVec_inj.mp
  simp only [Int64.toBitVec_or, Int64.toBitVec_xor, Int64.toBitVec_and]
  have e : (-1 : Int64).toBitVec = BitVec.allOnes 64 := by decide
  rw [e]
  apply BitVec.eq_of_getLsbD_eq
  intro i hi
  simp only [BitVec.getLsbD_xor, BitVec.getLsbD_or, BitVec.getLsbD_and, BitVec.getLsbD_allOnes, hi, decide_true]
  cases n.toBitVec.getLsbD i <;> cases m.toBitVec.getLsbD i <;> rfl
theorem sp_bt2 (x : Int64) (y : Nat) (hy : y < 64) : (x >>> Int64.ofNat y).toBitVec = x.toBitVec.sshiftRight y := by
  rw [Int64.toBitVec_shiftRight]
  have : ∀ y, y < 64 → ((Int64.ofNat y).toBitVec.smod 64) = BitVec.ofNat 64 y := by decide +kernel
  rw [this y hy, BitVec.sshiftRight_eq']
  congr 1
  simp; omega
theorem sp_bt3 (x : Int64) (y : Nat) (hy : y < 64) : (x <<< Int64.ofNat y).toBitVec = x.toBitVec <<< y := by
  rw [Int64.toBitVec_shiftLeft]
  have : ∀ y, y < 64 → ((Int64.ofNat y).toBitVec.smod 64) = BitVec.ofNat 64 y := by decide +kernel
  rw [this y hy, BitVec.shiftLeft_eq']
  congr 1
  simp; omega
theorem sp_bt4 (x : Int64) (y : Nat) (hy : y < 64) : ((x >>> Int64.ofNat y) &&& 1 = 1) ↔ x.toBitVec.getLsbD y = true := by
  rw [← Int64.toBitVec_inj, Int64.toBitVec_and, sp_bt2 x y hy]
  have e : (1 : Int64).toBitVec = 1#64 := rfl
  rw [e]
  constructor
  · intro h
    have := congrArg (fun z : BitVec 64 => z.getLsbD 0) h
    simp only [BitVec.getLsbD_and, BitVec.getLsbD_sshiftRight, BitVec.getLsbD_one] at this
    simpa [hy] using this
  · intro h
    apply BitVec.eq_of_getLsbD_eq
    intro i hi
    by_cases e0 : i = 0
    · subst e0
      simp [BitVec.getLsbD_sshiftRight, hy, h]
    · simp [e0, BitVec.getLsbD_one]
theorem sp_bt5 (n : Int64) (y : Nat) (hy : y < 64) (h : ¬ (((n ^^^ (-1)) >>> Int64.ofNat y) &&& 1 = 1)) : n ||| ((1 : Int64) <<< Int64.ofNat y) = n := by
  rw [sp_bt4 _ _ hy] at h
  apply Int64.toBitVec_inj.mp
  rw [Int64.toBitVec_or, sp_bt3 _ _ hy]
  have e : (1 : Int64).toBitVec = 1#64 := rfl
  rw [e]
  have e1 : (-1 : Int64).toBitVec = BitVec.allOnes 64 := by decide
  rw [Int64.toBitVec_xor, e1] at h
  have hn : n.toBitVec.getLsbD y = true := by
    simp only [BitVec.getLsbD_xor, BitVec.getLsbD_allOnes, hy, decide_true] at h
    cases e2 : n.toBitVec.getLsbD y with
    | true => rfl
    | false => rw [e2] at h; exact absurd rfl h
  apply BitVec.eq_of_getLsbD_eq
  intro i hi
  by_cases e0 : i = y
  · subst e0; simp [hn]
  · simp [BitVec.getLsbD_one]; omega
theorem sp_bt6 : ∀ y, y < 64 → (Int32.ofNat y).toInt64 &&& 63 = Int64.ofNat y := by decide +kernel

theorem sp_ofI : ∀ y, y < 64 → (nI y).toInt64 &&& 63 = Int64.ofNat y := by decide +kernel
def sp_hb (s : Int64) (x : Int32) : Bool := decide (s >>> (x.toInt64 &&& 63) &&& 1 = 1)
def sp_pc (v : Nat → Int32) : Nat → Nat
  | 0 => 0
  | i + 1 => sp_pc v i + pm_bl (sp_num (v i) && sp_hb (sp_nt v i ^^^ (-1)) (v i))
theorem sp_pc_le (v : Nat → Int32) : ∀ i, sp_pc v i ≤ i
  | 0 => Nat.le_refl _
  | i + 1 => by
    have h1 := sp_pc_le v i
    have h2 := pm_bl_le (sp_num (v i) && sp_hb (sp_nt v i ^^^ (-1)) (v i))
    simp only [sp_pc]; omega
theorem sp_pc_n {v : Nat → Int32} {i : Nat} (h : sp_num (v i) = false) : sp_pc v (i + 1) = sp_pc v i ∧ sp_nt v (i + 1) = sp_nt v i := by
  constructor
  · simp only [sp_pc]; rw [h]; rfl
  · simp only [sp_nt]; rw [h]; rfl
theorem sp_pc_y {v : Nat → Int32} {i y : Nat} (h : sp_num (v i) = true) (hy : y < 64) (hv : v i = nI y) (hb : (sp_nt v i ^^^ (-1)) >>> ((nI y).toInt64 &&& 63) &&& 1 = 1) : sp_pc v (i + 1) = sp_pc v i + 1 ∧ sp_nt v (i + 1) ^^^ (-1) = (sp_nt v i ^^^ (-1)) &&& (((1 : Int64) <<< ((nI y).toInt64 &&& 63)) ^^^ (-1)) := by
  constructor
  · simp only [sp_pc]; rw [h, hv]; unfold sp_hb; rw [decide_eq_true hb]; rfl
  · simp only [sp_nt]; rw [if_pos h, hv, sp_bt1]
theorem sp_pc_s {v : Nat → Int32} {i y : Nat} (h : sp_num (v i) = true) (hy : y < 64) (hv : v i = nI y) (hb : ¬ ((sp_nt v i ^^^ (-1)) >>> ((nI y).toInt64 &&& 63) &&& 1 = 1)) : sp_pc v (i + 1) = sp_pc v i ∧ sp_nt v (i + 1) = sp_nt v i := by
  constructor
  · simp only [sp_pc]; rw [h, hv]; unfold sp_hb; rw [decide_eq_false hb]; rfl
  · simp only [sp_nt]; rw [if_pos h, hv]; rw [sp_ofI y hy] at *; exact sp_bt5 _ _ hy hb
theorem m_dec {n : Nat} (h : 1 ≤ n) (h2 : n < 2 ^ 31) : nI n + (-1) = nI (n - 1) := by
  have e := pk_sub (a := n) (b := 1) h
  rw [← e, Int32.sub_eq_add_neg]
  rfl
set_option maxRecDepth 10000 in
set_option maxHeartbeats 4000000 in
theorem c_X10_lacks_bad {h : pm_H} {mi : Nat → Int32} {ml : Nat → Int64} {A : Nat → Nat → Int32} {B : Nat → Nat → Int64} {r : Int32} (hr : sp_in r 0 3 = false) : pm_Cv e_X10_lacks [.ref 44, .int r] (pmM h mi ml A B) (.int (-1)) (pmM h mi ml A B) := by
  refine pm_enter rfl (Nat.le_of_ble_eq_true rfl) ?_
  show pm_V e_X10_lacks 0 [some (.ref 44), some (.int r), none, none, none, none, none, none] [] (pmM h mi ml A B) (0, 0) _
  refine r_aload_0 d_X10_lacks_0 ?_
  refine r_iload_1 d_X10_lacks_1 ?_
  refine r_V1 d_X10_lacks_2 (c_X10_looked_bad hr) rfl rfl rfl ⟨rfl, rfl⟩ (Nat.le_of_ble_eq_true rfl) ?_
  refine r_istore_2 d_X10_lacks_5 (Nat.le_of_ble_eq_true rfl) (fun w hw => by cases hw <;> rfl) ?_
  refine r_iload_2 d_X10_lacks_6 ?_
  refine r_if_ge d_X10_lacks_7 (fun c7 => ?_) (fun c7 => ?_)
  · -- taken at 7
    exact absurd c7 (by decide)
  · -- not taken at 7
    refine r_iload_2 d_X10_lacks_10 ?_
    refine r_ireturn d_X10_lacks_11 ⟨_, rfl, rfl⟩ ?_
    exact ⟨rfl, rfl⟩
set_option maxRecDepth 10000 in
set_option maxHeartbeats 4000000 in
theorem c_X10_lacks_none {h : pm_H} {mi : Nat → Int32} {ml : Nat → Int64} {A : Nat → Nat → Int32} {B : Nat → Nat → Int64} {r : Nat} (hr : r < 4) (hz : A 62 r = -9) : pm_Cv e_X10_lacks [.ref 44, .int (nI r)] (pmM h mi ml A B) (.int (-3)) (m_meet h mi ml A B 1) := by
  refine pm_enter rfl (Nat.le_of_ble_eq_true rfl) ?_
  show pm_V e_X10_lacks 0 [some (.ref 44), some (.int (nI r)), none, none, none, none, none, none] [] (pmM h mi ml A B) (0, 0) _
  refine r_aload_0 d_X10_lacks_0 ?_
  refine r_iload_1 d_X10_lacks_1 ?_
  refine r_V1 d_X10_lacks_2 (c_X10_looked_none hr hz) rfl rfl rfl ⟨rfl, rfl⟩ (Nat.le_of_ble_eq_true rfl) ?_
  refine r_istore_2 d_X10_lacks_5 (Nat.le_of_ble_eq_true rfl) (fun w hw => by cases hw <;> rfl) ?_
  refine r_iload_2 d_X10_lacks_6 ?_
  refine r_if_ge d_X10_lacks_7 (fun c7 => ?_) (fun c7 => ?_)
  · -- taken at 7
    exact absurd c7 (by decide)
  · -- not taken at 7
    refine r_iload_2 d_X10_lacks_10 ?_
    refine r_ireturn d_X10_lacks_11 ⟨_, rfl, rfl⟩ ?_
    exact ⟨rfl, rfl⟩
set_option maxRecDepth 10000 in
set_option maxHeartbeats 4000000 in
theorem lp_X10_lacks {h : pm_H} {mi : Nat → Int32} {ml : Nat → Int64} {A : Nat → Nat → Int32} {B : Nat → Nat → Int64} {r z : Nat} (hr : r < 4) (hz : A 62 r = nI z) (hz64 : z ≤ 64) {F : Option Value → pm_H → Prop} {b : Nat × Nat} (K : ∀ o7, pm_V e_X10_lacks 85 [some (.ref 44), some (.int (nI r)), some (.int (nI 0)), some (.long (sp_nt (fun q => A 63 (64 * r + q)) z ^^^ (-1))), none, some (.int (nI (64 - sp_pc (fun q => A 63 (64 * r + q)) z))), some (.int (nI z)), o7] [] (pmM h mi ml A B) b F) : ∀ (d i : Nat), i + d = z → ∀ o7, pm_V e_X10_lacks 23 [some (.ref 44), some (.int (nI r)), some (.int (nI 0)), some (.long (sp_nt (fun q => A 63 (64 * r + q)) i ^^^ (-1))), none, some (.int (nI (64 - sp_pc (fun q => A 63 (64 * r + q)) i))), some (.int (nI i)), o7] [] (pmM h mi ml A B) b F := by
  intro d
  induction d with
  | zero =>
    intro i hi o7
    rw [show i = z by omega]
    refine r_iload_6 d_X10_lacks_23 ?_
    refine r_aload_0 d_X10_lacks_25 ?_
    refine r_get d_X10_lacks_26 s10_sizes rfl rfl ?_
    refine r_iload_1 d_X10_lacks_29 ?_
    refine r_iald d_X10_lacks_30 rfl (pm_ixN (by omega) (by omega)) ?_
    rw [hz]
    refine r_icmp_ge d_X10_lacks_31 (fun c31 => ?_) (fun c31 => ?_)
    · -- taken at 31
      have c31 : z ≤ z := (nI_leI (a := z) (b := z) (by omega) (by omega)).mp c31
      exact K _
    · -- not taken at 31
      have c31 : ¬ z ≤ z := fun zz9 => c31 ((nI_leI (a := z) (b := z) (by omega) (by omega)).mpr zz9)
      exfalso; omega
  | succ d ih =>
    intro i hi o7
    have hpc := sp_pc_le (fun q => A 63 (64 * r + q)) i
    cases hx : sp_num (A 63 (64 * r + i)) with
    | false =>
      have e0 := sp_pc_n (v := (fun q => A 63 (64 * r + q))) (i := i) hx
      refine r_iload_6 d_X10_lacks_23 ?_
      refine r_aload_0 d_X10_lacks_25 ?_
      refine r_get d_X10_lacks_26 s10_sizes rfl rfl ?_
      refine r_iload_1 d_X10_lacks_29 ?_
      refine r_iald d_X10_lacks_30 rfl (pm_ixN (by omega) (by omega)) ?_
      rw [hz]
      refine r_icmp_ge d_X10_lacks_31 (fun c31 => ?_) (fun c31 => ?_)
      · -- taken at 31
        have c31 : z ≤ i := (nI_leI (a := z) (b := i) (by omega) (by omega)).mp c31
        exfalso; omega
      · -- not taken at 31
        have c31 : ¬ z ≤ i := fun zz9 => c31 ((nI_leI (a := z) (b := i) (by omega) (by omega)).mpr zz9)
        refine r_aload_0 d_X10_lacks_34 ?_
        refine r_iload_1 d_X10_lacks_35 ?_
        refine r_iload_6 d_X10_lacks_36 ?_
        refine r_V2 d_X10_lacks_38 (c_X10_leaf hr (by omega)) rfl rfl rfl ⟨rfl, rfl⟩ (Nat.le_of_ble_eq_true rfl) ?_
        refine r_istore_7 d_X10_lacks_41 (Nat.le_of_ble_eq_true rfl) (fun w hw => by cases hw <;> rfl) ?_
        refine r_iload_7 d_X10_lacks_43 ?_
        refine r_push (v := nI 0) d_X10_lacks_45 ?_
        refine r_push (v := nI 63) d_X10_lacks_46 ?_
        refine r_S3 d_X10_lacks_48 (c_X10_inF hx) ⟨rfl, rfl⟩ (Nat.le_of_ble_eq_true rfl) ?_
        refine r_if_eq d_X10_lacks_51 (fun c51 => ?_) (fun c51 => absurd (by decide) c51)
        clear c51
        refine r_iinc_6 d_X10_lacks_79 (Nat.le_of_ble_eq_true rfl) (fun w hw => by cases hw <;> rfl) ?_
        rw [nI_1]
        refine r_goto d_X10_lacks_82 ?_
        have ih9 := ih (i + 1) (by omega)
        rw [e0.1, e0.2] at ih9
        exact ih9 _
    | true =>
      obtain ⟨y, hy, hxy, hnb⟩ := sp_num_ex hx
      refine r_iload_6 d_X10_lacks_23 ?_
      refine r_aload_0 d_X10_lacks_25 ?_
      refine r_get d_X10_lacks_26 s10_sizes rfl rfl ?_
      refine r_iload_1 d_X10_lacks_29 ?_
      refine r_iald d_X10_lacks_30 rfl (pm_ixN (by omega) (by omega)) ?_
      rw [hz]
      refine r_icmp_ge d_X10_lacks_31 (fun c31 => ?_) (fun c31 => ?_)
      · -- taken at 31
        have c31 : z ≤ i := (nI_leI (a := z) (b := i) (by omega) (by omega)).mp c31
        exfalso; omega
      · -- not taken at 31
        have c31 : ¬ z ≤ i := fun zz9 => c31 ((nI_leI (a := z) (b := i) (by omega) (by omega)).mpr zz9)
        refine r_aload_0 d_X10_lacks_34 ?_
        refine r_iload_1 d_X10_lacks_35 ?_
        refine r_iload_6 d_X10_lacks_36 ?_
        refine r_V2 d_X10_lacks_38 (c_X10_leaf hr (by omega)) rfl rfl rfl ⟨rfl, rfl⟩ (Nat.le_of_ble_eq_true rfl) ?_
        rw [hxy]
        refine r_istore_7 d_X10_lacks_41 (Nat.le_of_ble_eq_true rfl) (fun w hw => by cases hw <;> rfl) ?_
        refine r_iload_7 d_X10_lacks_43 ?_
        refine r_push (v := nI 0) d_X10_lacks_45 ?_
        refine r_push (v := nI 63) d_X10_lacks_46 ?_
        refine r_S3 d_X10_lacks_48 (c_X10_inN (by omega) (by omega) (by omega)) ⟨rfl, rfl⟩ (Nat.le_of_ble_eq_true rfl) ?_
        refine r_if_eq d_X10_lacks_51 (fun c51 => absurd c51 (by decide)) (fun c51 => ?_)
        clear c51
        refine r_lload_3 d_X10_lacks_54 ?_
        refine r_iload_7 d_X10_lacks_55 ?_
        refine r_lshr d_X10_lacks_57 ?_
        refine r_pushl d_X10_lacks_58 ?_
        refine r_land d_X10_lacks_59 ?_
        refine r_pushl d_X10_lacks_60 ?_
        refine r_lcmp d_X10_lacks_61 ?_
        refine r_if_ne d_X10_lacks_62 (fun c62 => ?_) (fun c62 => ?_)
        · -- taken at 62
          have hb := fun z9 => c62 ((lg_cmp_eq _ _).mpr z9)
          have e0 := sp_pc_s (v := (fun q => A 63 (64 * r + q))) (i := i) hx hy hxy hb
          have ih9 := ih (i + 1) (by omega)
          rw [e0.1, e0.2] at ih9
          refine r_iinc_6 d_X10_lacks_79 (Nat.le_of_ble_eq_true rfl) (fun w hw => by cases hw <;> rfl) ?_
          rw [nI_1]
          refine r_goto d_X10_lacks_82 ?_
          exact ih9 _
        · -- not taken at 62
          refine r_lload_3 d_X10_lacks_65 ?_
          refine r_pushl d_X10_lacks_66 ?_
          refine r_iload_7 d_X10_lacks_67 ?_
          refine r_lshl d_X10_lacks_69 ?_
          refine r_pushl d_X10_lacks_70 ?_
          refine r_lxor d_X10_lacks_73 ?_
          refine r_land d_X10_lacks_74 ?_
          refine r_lstore_3 d_X10_lacks_75 (Nat.le_of_ble_eq_true rfl) (fun w hw => by cases hw <;> rfl) ?_
          have hb := (lg_cmp_eq _ _).mp c62
          have e0 := sp_pc_y (v := (fun q => A 63 (64 * r + q))) (i := i) hx hy hxy hb
          have ih9 := ih (i + 1) (by omega)
          rw [e0.1, e0.2] at ih9
          refine r_iinc_5 d_X10_lacks_76 (Nat.le_of_ble_eq_true rfl) (fun w hw => by cases hw <;> rfl) ?_
          rw [m_dec (n := (64 - sp_pc (fun q => A 63 (64 * r + q)) i)) (by omega) (by omega), show (64 - sp_pc (fun q => A 63 (64 * r + q)) i) - 1 = 64 - (sp_pc (fun q => A 63 (64 * r + q)) i + 1) by omega]
          refine r_iinc_6 d_X10_lacks_79 (Nat.le_of_ble_eq_true rfl) (fun w hw => by cases hw <;> rfl) ?_
          rw [nI_1]
          refine r_goto d_X10_lacks_82 ?_
          exact ih9 _
set_option maxRecDepth 10000 in
set_option maxHeartbeats 4000000 in
theorem c_X10_lacks {h : pm_H} {mi : Nat → Int32} {ml : Nat → Int64} {A : Nat → Nat → Int32} {B : Nat → Nat → Int64} {r z : Nat} (hr : r < 4) (hz : A 62 r = nI z) (hz64 : z ≤ 64) : pm_Cv e_X10_lacks [.ref 44, .int (nI r)] (pmM h mi ml A B) (.int (nI (64 - sp_pc (fun q => A 63 (64 * r + q)) z))) (pmM h mi (vp_updL ml 0 (sp_nt (fun q => A 63 (64 * r + q)) z ^^^ (-1))) A B) := by
  refine pm_enter rfl (Nat.le_of_ble_eq_true rfl) ?_
  show pm_V e_X10_lacks 0 [some (.ref 44), some (.int (nI r)), none, none, none, none, none, none] [] (pmM h mi ml A B) (0, 0) _
  refine r_aload_0 d_X10_lacks_0 ?_
  refine r_iload_1 d_X10_lacks_1 ?_
  refine r_V1 d_X10_lacks_2 (c_X10_looked hr hz hz64) rfl rfl rfl ⟨rfl, rfl⟩ (Nat.le_of_ble_eq_true rfl) ?_
  show pm_V _ _ _ (.int (nI 0) :: _) _ _ _
  refine r_istore_2 d_X10_lacks_5 (Nat.le_of_ble_eq_true rfl) (fun w hw => by cases hw <;> rfl) ?_
  refine r_iload_2 d_X10_lacks_6 ?_
  refine r_if_ge d_X10_lacks_7 (fun c7 => ?_) (fun c7 => absurd (by decide) c7)
  clear c7
  refine r_pushl d_X10_lacks_12 ?_
  refine r_lstore_3 d_X10_lacks_15 (Nat.le_of_ble_eq_true rfl) (fun w hw => by cases hw <;> rfl) ?_
  refine r_push (v := nI 64) d_X10_lacks_16 ?_
  refine r_istore_5 d_X10_lacks_18 (Nat.le_of_ble_eq_true rfl) (fun w hw => by cases hw <;> rfl) ?_
  refine r_push (v := nI 0) d_X10_lacks_20 ?_
  refine r_istore_6 d_X10_lacks_21 (Nat.le_of_ble_eq_true rfl) (fun w hw => by cases hw <;> rfl) ?_
  have K := lp_X10_lacks (h := h) (mi := mi) (ml := ml) (B := B) hr hz hz64 (b := (0, 0)) (F := fun v h1 => v = some (.int (nI (64 - sp_pc (fun q => A 63 (64 * r + q)) z))) ∧ h1 = (pmM h mi (vp_updL ml 0 (sp_nt (fun q => A 63 (64 * r + q)) z ^^^ (-1))) A B)) (fun o7 => ?_) z 0 (by omega) none
  · rw [show (sp_nt (fun q => A 63 (64 * r + q)) 0 ^^^ (-1)) = -1 by rw [sp_nt]; decide, show (64 - sp_pc (fun q => A 63 (64 * r + q)) 0) = 64 by rw [sp_pc]] at K
    exact K
  refine r_aload_0 d_X10_lacks_85 ?_
  refine r_lload_3 d_X10_lacks_86 ?_
  refine r_put d_X10_lacks_87 s10_asked rfl (Nat.le_of_ble_eq_true rfl) ⟨rfl, rfl⟩ ?_
  rw [pmM_asked]
  refine r_iload_5 d_X10_lacks_90 ?_
  refine r_ireturn d_X10_lacks_92 ⟨_, rfl, rfl⟩ ?_
  exact ⟨rfl, rfl⟩
theorem m_sw (a : Nat → Int32) (r i j : Nat) (hi : i < 64) (hj : j < 64) : upd (upd a (64 * r + i) (a (64 * r + j))) (64 * r + j) (a (64 * r + i)) = m_bk a (64 * r) (sp_sw (fun q => a (64 * r + q)) i j) 64 := by
  funext q
  unfold m_bk
  by_cases e : 64 * r ≤ q ∧ q < 64 * r + 64
  · rw [if_pos e]
    obtain ⟨u, hu⟩ : ∃ u, q = 64 * r + u := ⟨q - 64 * r, by omega⟩
    subst hu
    rw [Nat.add_sub_cancel_left]
    unfold sp_sw upd
    dsimp only
    by_cases e1 : u = j
    · subst e1; rw [if_pos rfl, if_pos rfl]
    · rw [if_neg (by omega), if_neg e1]
      by_cases e2 : u = i
      · subst e2; rw [if_pos rfl, if_pos rfl]
      · rw [if_neg (by omega), if_neg e2]
  · rw [if_neg e]
    unfold upd
    rw [if_neg (by omega), if_neg (by omega)]
theorem m_bk_at {α : Type} (a : Nat → α) (r : Nat) (s : Nat → α) {q : Nat} (hq : q < 64) : m_bk a (64 * r) s 64 (64 * r + q) = s q := by
  unfold m_bk; rw [if_pos (by omega), Nat.add_sub_cancel_left]
theorem m_bk_bk {α : Type} (a : Nat → α) (b : Nat) (s s' : Nat → α) (n : Nat) : m_bk (m_bk a b s n) b s' n = m_bk a b s' n := by
  funext q
  unfold m_bk
  by_cases e : b ≤ q ∧ q < b + n
  · rw [if_pos e, if_pos e]
  · rw [if_neg e, if_neg e, if_neg e]
theorem m_bk_self {α : Type} (a : Nat → α) (b n : Nat) : m_bk a b (fun q => a (b + q)) n = a := by
  funext q
  unfold m_bk
  by_cases e : b ≤ q ∧ q < b + n
  · rw [if_pos e]; show a (b + (q - b)) = a q; rw [show b + (q - b) = q by omega]
  · rw [if_neg e]
theorem sp_sw_cong {v w : Nat → Int32} {i j : Nat} (hi : i < 64) (hj : j < 64) (h : ∀ q, q < 64 → v q = w q) : ∀ q, q < 64 → sp_sw v i j q = sp_sw w i j q := by
  intro q hq
  unfold sp_sw upd
  split
  · exact h i hi
  · split
    · exact h j hj
    · exact h q hq
theorem sp_mp_cong {o z : Nat} {v w : Nat → Int32} (hz : z ≤ 64) (h : ∀ q, q < 64 → v q = w q) : ∀ i, i < z → sp_mp o v z i = sp_mp o w z i := by
  intro i hi
  unfold sp_mp sp_m1 sp_m2
  rw [h i (by omega), h (i - 1) (by omega)]
  by_cases e : i - 1 + 1 < z
  · rw [h (i - 1 + 1) (by omega)]
  · rw [decide_eq_false e]
    simp
theorem sp_ct_cong {p q : Nat → Bool} : ∀ {n : Nat}, (∀ i, i < n → p i = q i) → sp_ct p n = sp_ct q n
  | 0, _ => rfl
  | n + 1, h => by rw [sp_ct_s, sp_ct_s, sp_ct_cong (n := n) (fun i hi => h i (by omega)), h n (by omega)]
theorem sp_mc_cong {o z : Nat} {v w : Nat → Int32} (hz : z ≤ 64) (h : ∀ q, q < 64 → v q = w q) : sp_mc o v z = sp_mc o w z := sp_ct_cong (sp_mp_cong hz h)
set_option maxRecDepth 10000 in
set_option maxHeartbeats 4000000 in
theorem c_X10_swap {h : pm_H} {mi : Nat → Int32} {ml : Nat → Int64} {A : Nat → Nat → Int32} {B : Nat → Nat → Int64} {r i j : Nat} (hr : r < 4) (hi : i < 64) (hj : j < 64) : pm_C0 e_X10_swap [.ref 44, .int (nI r), .int (nI i), .int (nI j)] (pmM h mi ml A B) (pmM h mi ml (va_up A 63 (m_bk (A 63) (64 * r) (sp_sw (fun q => A 63 (64 * r + q)) i j) 64)) B) := by
  refine pm_enter rfl (Nat.le_of_ble_eq_true rfl) ?_
  show pm_V e_X10_swap 0 [some (.ref 44), some (.int (nI r)), some (.int (nI i)), some (.int (nI j)), none] [] (pmM h mi ml A B) (0, 0) _
  refine r_aload_0 d_X10_swap_0 ?_
  refine r_get d_X10_swap_1 s10_rows rfl rfl ?_
  refine r_push (v := nI 64) d_X10_swap_4 ?_
  refine r_iload_1 d_X10_swap_6 ?_
  refine r_imul d_X10_swap_7 ?_
  rw [pk_mul]
  refine r_iload_2 d_X10_swap_8 ?_
  refine r_iadd d_X10_swap_9 ?_
  rw [nI_add]
  refine r_iald d_X10_swap_10 rfl (pm_ixN (by omega) (by omega)) ?_
  refine r_istore_4 d_X10_swap_11 (Nat.le_of_ble_eq_true rfl) (fun w hw => by cases hw <;> rfl) ?_
  refine r_aload_0 d_X10_swap_13 ?_
  refine r_get d_X10_swap_14 s10_rows rfl rfl ?_
  refine r_push (v := nI 64) d_X10_swap_17 ?_
  refine r_iload_1 d_X10_swap_19 ?_
  refine r_imul d_X10_swap_20 ?_
  rw [pk_mul]
  refine r_iload_2 d_X10_swap_21 ?_
  refine r_iadd d_X10_swap_22 ?_
  rw [nI_add]
  refine r_aload_0 d_X10_swap_23 ?_
  refine r_get d_X10_swap_24 s10_rows rfl rfl ?_
  refine r_push (v := nI 64) d_X10_swap_27 ?_
  refine r_iload_1 d_X10_swap_29 ?_
  refine r_imul d_X10_swap_30 ?_
  rw [pk_mul]
  refine r_iload_3 d_X10_swap_31 ?_
  refine r_iadd d_X10_swap_32 ?_
  rw [nI_add]
  refine r_iald d_X10_swap_33 rfl (pm_ixN (by omega) (by omega)) ?_
  refine r_iast d_X10_swap_34 rfl (pm_ixN (by omega) (by omega)) ?_
  rw [pmM_rows]
  refine r_aload_0 d_X10_swap_35 ?_
  refine r_get d_X10_swap_36 s10_rows rfl rfl ?_
  refine r_push (v := nI 64) d_X10_swap_39 ?_
  refine r_iload_1 d_X10_swap_41 ?_
  refine r_imul d_X10_swap_42 ?_
  rw [pk_mul]
  refine r_iload_3 d_X10_swap_43 ?_
  refine r_iadd d_X10_swap_44 ?_
  rw [nI_add]
  refine r_iload_4 d_X10_swap_45 ?_
  refine r_iast d_X10_swap_47 rfl (pm_ixN (by omega) (by omega)) ?_
  rw [pmM_rows, m_aua, show va_up A 63 (upd (A 63) (64 * r + i) (A 63 (64 * r + j))) 63 = upd (A 63) (64 * r + i) (A 63 (64 * r + j)) from rfl, m_sw (A 63) r i j hi hj]
  refine r_return d_X10_swap_48 rfl ?_
  exact ⟨rfl, rfl⟩
set_option maxRecDepth 10000 in
set_option maxHeartbeats 4000000 in
theorem c_X10_swapped_bad1 {h : pm_H} {mi : Nat → Int32} {ml : Nat → Int64} {A : Nat → Nat → Int32} {B : Nat → Nat → Int64} {r o : Int32} (ho : sp_in o 0 2 = false) : pm_Cv e_X10_swapped [.ref 44, .int r, .int o] (pmM h mi ml A B) (.int (-1)) (pmM h mi ml A B) := by
  refine pm_enter rfl (Nat.le_of_ble_eq_true rfl) ?_
  show pm_V e_X10_swapped 0 [some (.ref 44), some (.int r), some (.int o), none, none, none, none] [] (pmM h mi ml A B) (0, 0) _
  refine r_iload_2 d_X10_swapped_0 ?_
  refine r_push d_X10_swapped_1 ?_
  refine r_push d_X10_swapped_2 ?_
  refine r_S3 d_X10_swapped_3 c_X10_in ⟨rfl, rfl⟩ (Nat.le_of_ble_eq_true rfl) ?_
  rw [ho]
  show pm_V _ _ _ (.int (nI 0) :: _) _ _ _
  refine r_if_ne d_X10_swapped_6 (fun c6 => absurd (by decide) c6) (fun c6 => ?_)
  clear c6
  refine r_push d_X10_swapped_9 ?_
  refine r_ireturn d_X10_swapped_10 ⟨_, rfl, rfl⟩ ?_
  exact ⟨rfl, rfl⟩
set_option maxRecDepth 10000 in
set_option maxHeartbeats 4000000 in
theorem c_X10_swapped_bad {h : pm_H} {mi : Nat → Int32} {ml : Nat → Int64} {A : Nat → Nat → Int32} {B : Nat → Nat → Int64} {r o : Int32} (ho : sp_in o 0 2 = true) (hr : sp_in r 0 3 = false) : pm_Cv e_X10_swapped [.ref 44, .int r, .int o] (pmM h mi ml A B) (.int (-1)) (pmM h mi ml A B) := by
  refine pm_enter rfl (Nat.le_of_ble_eq_true rfl) ?_
  show pm_V e_X10_swapped 0 [some (.ref 44), some (.int r), some (.int o), none, none, none, none] [] (pmM h mi ml A B) (0, 0) _
  refine r_iload_2 d_X10_swapped_0 ?_
  refine r_push d_X10_swapped_1 ?_
  refine r_push d_X10_swapped_2 ?_
  refine r_S3 d_X10_swapped_3 c_X10_in ⟨rfl, rfl⟩ (Nat.le_of_ble_eq_true rfl) ?_
  rw [ho]
  show pm_V _ _ _ (.int (nI 1) :: _) _ _ _
  refine r_if_ne d_X10_swapped_6 (fun c6 => ?_) (fun c6 => absurd c6 (by decide))
  clear c6
  refine r_aload_0 d_X10_swapped_11 ?_
  refine r_iload_1 d_X10_swapped_12 ?_
  refine r_V1 d_X10_swapped_13 (c_X10_looked_bad hr) rfl rfl rfl ⟨rfl, rfl⟩ (Nat.le_of_ble_eq_true rfl) ?_
  refine r_istore_3 d_X10_swapped_16 (Nat.le_of_ble_eq_true rfl) (fun w hw => by cases hw <;> rfl) ?_
  refine r_iload_3 d_X10_swapped_17 ?_
  refine r_if_ge d_X10_swapped_18 (fun c18 => ?_) (fun c18 => ?_)
  · -- taken at 18
    exact absurd c18 (by decide)
  · -- not taken at 18
    refine r_iload_3 d_X10_swapped_21 ?_
    refine r_ireturn d_X10_swapped_22 ⟨_, rfl, rfl⟩ ?_
    exact ⟨rfl, rfl⟩
set_option maxRecDepth 10000 in
set_option maxHeartbeats 4000000 in
theorem c_X10_swapped_none {h : pm_H} {mi : Nat → Int32} {ml : Nat → Int64} {A : Nat → Nat → Int32} {B : Nat → Nat → Int64} {r : Nat} {o : Int32} (ho : sp_in o 0 2 = true) (hr : r < 4) (hz : A 62 r = -9) : pm_Cv e_X10_swapped [.ref 44, .int (nI r), .int o] (pmM h mi ml A B) (.int (-3)) (m_meet h mi ml A B 1) := by
  refine pm_enter rfl (Nat.le_of_ble_eq_true rfl) ?_
  show pm_V e_X10_swapped 0 [some (.ref 44), some (.int (nI r)), some (.int o), none, none, none, none] [] (pmM h mi ml A B) (0, 0) _
  refine r_iload_2 d_X10_swapped_0 ?_
  refine r_push d_X10_swapped_1 ?_
  refine r_push d_X10_swapped_2 ?_
  refine r_S3 d_X10_swapped_3 c_X10_in ⟨rfl, rfl⟩ (Nat.le_of_ble_eq_true rfl) ?_
  rw [ho]
  show pm_V _ _ _ (.int (nI 1) :: _) _ _ _
  refine r_if_ne d_X10_swapped_6 (fun c6 => ?_) (fun c6 => absurd c6 (by decide))
  clear c6
  refine r_aload_0 d_X10_swapped_11 ?_
  refine r_iload_1 d_X10_swapped_12 ?_
  refine r_V1 d_X10_swapped_13 (c_X10_looked_none hr hz) rfl rfl rfl ⟨rfl, rfl⟩ (Nat.le_of_ble_eq_true rfl) ?_
  refine r_istore_3 d_X10_swapped_16 (Nat.le_of_ble_eq_true rfl) (fun w hw => by cases hw <;> rfl) ?_
  refine r_iload_3 d_X10_swapped_17 ?_
  refine r_if_ge d_X10_swapped_18 (fun c18 => ?_) (fun c18 => ?_)
  · -- taken at 18
    exact absurd c18 (by decide)
  · -- not taken at 18
    refine r_iload_3 d_X10_swapped_21 ?_
    refine r_ireturn d_X10_swapped_22 ⟨_, rfl, rfl⟩ ?_
    exact ⟨rfl, rfl⟩
set_option maxRecDepth 10000 in
set_option maxHeartbeats 4000000 in
theorem lq_X10_swapped {h : pm_H} {mi : Nat → Int32} {ml : Nat → Int64} {A : Nat → Nat → Int32} {B : Nat → Nat → Int64} {r z : Nat} (hr : r < 4) (hz : A 62 r = nI z) (hz64 : z ≤ 64) {o : Nat} (ho : o ≤ 2) {F : Option Value → pm_H → Prop} {b : Nat × Nat} {i : Nat} (hi : i < z) (KS : ∀ j, j < z → sp_fd ((sp_mend o (fun q => A 63 (64 * r + q)) z) i) (z - (i + 1)) (i + 1) = some j → F (some (.int (nI (100 * i + j)))) (pmM h mi ml A B)) (K : ∀ o5 o6, sp_fd ((sp_mend o (fun q => A 63 (64 * r + q)) z) i) (z - (i + 1)) (i + 1) = none → pm_V e_X10_swapped 119 [some (.ref 44), some (.int (nI r)), some (.int (nI o)), some (.int (nI 0)), some (.int (nI i)), o5, o6] [] (pmM h mi ml A B) b F) : ∀ (d j : Nat), j + d = z → i < j → sp_fd ((sp_mend o (fun q => A 63 (64 * r + q)) z) i) d j = sp_fd ((sp_mend o (fun q => A 63 (64 * r + q)) z) i) (z - (i + 1)) (i + 1) → ∀ o6, pm_V e_X10_swapped 54 [some (.ref 44), some (.int (nI r)), some (.int (nI o)), some (.int (nI 0)), some (.int (nI i)), some (.int (nI j)), o6] [] (pmM h mi ml A B) b F := by
  intro d
  induction d with
  | zero =>
    intro j hj hij hfd o6
    rw [show j = z by omega]
    refine r_iload_5 d_X10_swapped_54 ?_
    refine r_aload_0 d_X10_swapped_56 ?_
    refine r_get d_X10_swapped_57 s10_sizes rfl rfl ?_
    refine r_iload_1 d_X10_swapped_60 ?_
    refine r_iald d_X10_swapped_61 rfl (pm_ixN (by omega) (by omega)) ?_
    rw [hz]
    refine r_icmp_ge d_X10_swapped_62 (fun c62 => ?_) (fun c62 => ?_)
    · -- taken at 62
      have c62 : z ≤ z := (nI_leI (a := z) (b := z) (by omega) (by omega)).mp c62
      exact K _ _ hfd.symm
    · -- not taken at 62
      have c62 : ¬ z ≤ z := fun zz9 => c62 ((nI_leI (a := z) (b := z) (by omega) (by omega)).mpr zz9)
      exfalso; omega
  | succ d ih =>
    intro j hj hij hfd o6
    have esw : sp_mc o (fun q => m_bk (A 63) (64 * r) (sp_sw (fun q => A 63 (64 * r + q)) i j) 64 (64 * r + q)) z = sp_mc o (sp_sw (fun q => A 63 (64 * r + q)) i j) z := sp_mc_cong hz64 (fun q hq => m_bk_at _ _ _ hq)
    have eback : m_bk (m_bk (A 63) (64 * r) (sp_sw (fun q => A 63 (64 * r + q)) i j) 64) (64 * r) (sp_sw (fun q => m_bk (A 63) (64 * r) (sp_sw (fun q => A 63 (64 * r + q)) i j) 64 (64 * r + q)) i j) 64 = A 63 := by
      rw [m_bk_bk, m_bk_cong (s' := (fun q => A 63 (64 * r + q))) (fun q hq => by rw [sp_sw_cong (by omega) (by omega) (fun q hq => m_bk_at (A 63) r (sp_sw (fun q => A 63 (64 * r + q)) i j) hq) q hq, sp_sw_sw]), m_bk_self]
    have hmc := sp_mc_le o (sp_sw (fun q => A 63 (64 * r + q)) i j) z
    have efd : sp_fd ((sp_mend o (fun q => A 63 (64 * r + q)) z) i) (d + 1) j = if (sp_mend o (fun q => A 63 (64 * r + q)) z) i j then some j else sp_fd ((sp_mend o (fun q => A 63 (64 * r + q)) z) i) d (j + 1) := by rw [sp_fd]
    have emd : (sp_mend o (fun q => A 63 (64 * r + q)) z) i j = (sp_mc o (sp_sw (fun q => A 63 (64 * r + q)) i j) z == 0) := rfl
    refine r_iload_5 d_X10_swapped_54 ?_
    refine r_aload_0 d_X10_swapped_56 ?_
    refine r_get d_X10_swapped_57 s10_sizes rfl rfl ?_
    refine r_iload_1 d_X10_swapped_60 ?_
    refine r_iald d_X10_swapped_61 rfl (pm_ixN (by omega) (by omega)) ?_
    rw [hz]
    refine r_icmp_ge d_X10_swapped_62 (fun c62 => ?_) (fun c62 => ?_)
    · -- taken at 62
      have c62 : z ≤ j := (nI_leI (a := z) (b := j) (by omega) (by omega)).mp c62
      exfalso; omega
    · -- not taken at 62
      have c62 : ¬ z ≤ j := fun zz9 => c62 ((nI_leI (a := z) (b := j) (by omega) (by omega)).mpr zz9)
      refine r_aload_0 d_X10_swapped_65 ?_
      refine r_iload_1 d_X10_swapped_66 ?_
      refine r_iload_4 d_X10_swapped_67 ?_
      refine r_iload_5 d_X10_swapped_69 ?_
      refine r_V3v d_X10_swapped_71 (c_X10_swap hr (by omega) (by omega)) rfl rfl rfl ⟨rfl, rfl⟩ (Nat.le_of_ble_eq_true rfl) ?_
      refine r_aload_0 d_X10_swapped_74 ?_
      refine r_iload_1 d_X10_swapped_75 ?_
      refine r_iload_2 d_X10_swapped_76 ?_
      refine r_V2 d_X10_swapped_77 (c_X10_misfitsOf (A := va_up A 63 (m_bk (A 63) (64 * r) (sp_sw (fun q => A 63 (64 * r + q)) i j) 64)) hr hz hz64 (ord := o) (by omega)) rfl rfl rfl ⟨rfl, rfl⟩ (Nat.le_of_ble_eq_true rfl) ?_
      rw [show va_up A 63 (m_bk (A 63) (64 * r) (sp_sw (fun q => A 63 (64 * r + q)) i j) 64) 63 = m_bk (A 63) (64 * r) (sp_sw (fun q => A 63 (64 * r + q)) i j) 64 from rfl, esw]
      refine r_if_ne d_X10_swapped_80 (fun c80 => ?_) (fun c80 => ?_)
      · -- taken at 80
        have c80 : ¬ (sp_mc o (sp_sw (fun q => A 63 (64 * r + q)) i j) z) = 0 := fun zz9 => c80 ((nI_eq (a := (sp_mc o (sp_sw (fun q => A 63 (64 * r + q)) i j) z)) (b := 0) (by omega) (by omega)).mpr zz9)
        refine r_push (v := nI 0) d_X10_swapped_87 ?_
        refine r_istore_6 d_X10_swapped_88 (Nat.le_of_ble_eq_true rfl) (fun w hw => by cases hw <;> rfl) ?_
        refine r_aload_0 d_X10_swapped_90 ?_
        refine r_iload_1 d_X10_swapped_91 ?_
        refine r_iload_4 d_X10_swapped_92 ?_
        refine r_iload_5 d_X10_swapped_94 ?_
        refine r_V3v d_X10_swapped_96 (c_X10_swap hr (by omega) (by omega)) rfl rfl rfl ⟨rfl, rfl⟩ (Nat.le_of_ble_eq_true rfl) ?_
        rw [m_aua, show va_up A 63 (m_bk (A 63) (64 * r) (sp_sw (fun q => A 63 (64 * r + q)) i j) 64) 63 = m_bk (A 63) (64 * r) (sp_sw (fun q => A 63 (64 * r + q)) i j) 64 from rfl, eback, m_aus]
        refine r_iload_6 d_X10_swapped_99 ?_
        refine r_if_eq d_X10_swapped_101 (fun c101 => ?_) (fun c101 => absurd (by decide) c101)
        clear c101
        refine r_iinc_5 d_X10_swapped_113 (Nat.le_of_ble_eq_true rfl) (fun w hw => by cases hw <;> rfl) ?_
        rw [nI_1]
        refine r_goto d_X10_swapped_116 ?_
        refine ih (j + 1) (by omega) (by omega) ?_ _
        rw [← hfd, efd, if_neg (by rw [emd]; simpa using c80)]
      · -- not taken at 80
        have c80 : (sp_mc o (sp_sw (fun q => A 63 (64 * r + q)) i j) z) = 0 := (nI_eq (a := (sp_mc o (sp_sw (fun q => A 63 (64 * r + q)) i j) z)) (b := 0) (by omega) (by omega)).mp c80
        refine r_push (v := nI 1) d_X10_swapped_83 ?_
        refine r_goto d_X10_swapped_84 ?_
        refine r_istore_6 d_X10_swapped_88 (Nat.le_of_ble_eq_true rfl) (fun w hw => by cases hw <;> rfl) ?_
        refine r_aload_0 d_X10_swapped_90 ?_
        refine r_iload_1 d_X10_swapped_91 ?_
        refine r_iload_4 d_X10_swapped_92 ?_
        refine r_iload_5 d_X10_swapped_94 ?_
        refine r_V3v d_X10_swapped_96 (c_X10_swap hr (by omega) (by omega)) rfl rfl rfl ⟨rfl, rfl⟩ (Nat.le_of_ble_eq_true rfl) ?_
        rw [m_aua, show va_up A 63 (m_bk (A 63) (64 * r) (sp_sw (fun q => A 63 (64 * r + q)) i j) 64) 63 = m_bk (A 63) (64 * r) (sp_sw (fun q => A 63 (64 * r + q)) i j) 64 from rfl, eback, m_aus]
        refine r_iload_6 d_X10_swapped_99 ?_
        refine r_if_eq d_X10_swapped_101 (fun c101 => absurd c101 (by decide)) (fun c101 => ?_)
        clear c101
        refine r_push (v := nI 100) d_X10_swapped_104 ?_
        refine r_iload_4 d_X10_swapped_106 ?_
        refine r_imul d_X10_swapped_108 ?_
        rw [pk_mul]
        refine r_iload_5 d_X10_swapped_109 ?_
        refine r_iadd d_X10_swapped_111 ?_
        rw [nI_add]
        refine r_ireturn d_X10_swapped_112 ⟨_, rfl, rfl⟩ ?_
        rw [emd, c80] at efd
        exact KS j (by omega) (hfd.symm.trans efd)
set_option maxRecDepth 10000 in
set_option maxHeartbeats 4000000 in
theorem lp_X10_swapped {h : pm_H} {mi : Nat → Int32} {ml : Nat → Int64} {A : Nat → Nat → Int32} {B : Nat → Nat → Int64} {r z : Nat} (hr : r < 4) (hz : A 62 r = nI z) (hz64 : z ≤ 64) {o : Nat} (ho : o ≤ 2) {b : Nat × Nat} : ∀ (d i : Nat), i + d = z → ∀ o5 o6, pm_V e_X10_swapped 37 [some (.ref 44), some (.int (nI r)), some (.int (nI o)), some (.int (nI 0)), some (.int (nI i)), o5, o6] [] (pmM h mi ml A B) b (fun v h1 => v = some (.int (sp_msx (sp_f2 (sp_mend o (fun q => A 63 (64 * r + q)) z) z d i))) ∧ h1 = (pmM h mi ml A B)) := by
  intro d
  induction d with
  | zero =>
    intro i hi o5 o6
    rw [show i = z by omega]
    refine r_iload_4 d_X10_swapped_37 ?_
    refine r_aload_0 d_X10_swapped_39 ?_
    refine r_get d_X10_swapped_40 s10_sizes rfl rfl ?_
    refine r_iload_1 d_X10_swapped_43 ?_
    refine r_iald d_X10_swapped_44 rfl (pm_ixN (by omega) (by omega)) ?_
    rw [hz]
    refine r_icmp_ge d_X10_swapped_45 (fun c45 => ?_) (fun c45 => ?_)
    · -- taken at 45
      have c45 : z ≤ z := (nI_leI (a := z) (b := z) (by omega) (by omega)).mp c45
      refine r_push d_X10_swapped_125 ?_
      refine r_ireturn d_X10_swapped_127 ⟨_, rfl, rfl⟩ ?_
      exact ⟨by rw [sp_f2]; rfl, rfl⟩
    · -- not taken at 45
      have c45 : ¬ z ≤ z := fun zz9 => c45 ((nI_leI (a := z) (b := z) (by omega) (by omega)).mpr zz9)
      exfalso; omega
  | succ d ih =>
    intro i hi o5 o6
    refine r_iload_4 d_X10_swapped_37 ?_
    refine r_aload_0 d_X10_swapped_39 ?_
    refine r_get d_X10_swapped_40 s10_sizes rfl rfl ?_
    refine r_iload_1 d_X10_swapped_43 ?_
    refine r_iald d_X10_swapped_44 rfl (pm_ixN (by omega) (by omega)) ?_
    rw [hz]
    refine r_icmp_ge d_X10_swapped_45 (fun c45 => ?_) (fun c45 => ?_)
    · -- taken at 45
      have c45 : z ≤ i := (nI_leI (a := z) (b := i) (by omega) (by omega)).mp c45
      exfalso; omega
    · -- not taken at 45
      have c45 : ¬ z ≤ i := fun zz9 => c45 ((nI_leI (a := z) (b := i) (by omega) (by omega)).mpr zz9)
      refine r_iload_4 d_X10_swapped_48 ?_
      refine r_push (v := nI 1) d_X10_swapped_50 ?_
      refine r_iadd d_X10_swapped_51 ?_
      rw [nI_add]
      refine r_istore_5 d_X10_swapped_52 (Nat.le_of_ble_eq_true rfl) (fun w hw => by cases hw <;> rfl) ?_
      refine lq_X10_swapped hr hz hz64 ho (by omega) (fun j hj hs => ?_) (fun o5 o6 hs => ?_) (z - (i + 1)) (i + 1) (by omega) (by omega) rfl _
      · refine ⟨?_, rfl⟩
        rw [sp_f2, hs]
        rfl
      ·
        refine r_iinc_4 d_X10_swapped_119 (Nat.le_of_ble_eq_true rfl) (fun w hw => by cases hw <;> rfl) ?_
        rw [nI_1]
        refine r_goto d_X10_swapped_122 ?_
        have ih9 := ih (i + 1) (by omega) o5 o6
        rw [show sp_f2 (sp_mend o (fun q => A 63 (64 * r + q)) z) z (d + 1) i = sp_f2 (sp_mend o (fun q => A 63 (64 * r + q)) z) z d (i + 1) by rw [sp_f2, hs]]
        exact ih9
set_option maxRecDepth 10000 in
set_option maxHeartbeats 4000000 in
theorem c_X10_swapped {h : pm_H} {mi : Nat → Int32} {ml : Nat → Int64} {A : Nat → Nat → Int32} {B : Nat → Nat → Int64} {r z : Nat} (hr : r < 4) (hz : A 62 r = nI z) (hz64 : z ≤ 64) {o : Nat} (ho : o ≤ 2) : pm_Cv e_X10_swapped [.ref 44, .int (nI r), .int (nI o)] (pmM h mi ml A B) (.int (if sp_mc o (fun q => A 63 (64 * r + q)) z = 0 then 0 else sp_msx (sp_f2 (sp_mend o (fun q => A 63 (64 * r + q)) z) z z 0))) (pmM h mi ml A B) := by
  have hmc := sp_mc_le o (fun q => A 63 (64 * r + q)) z
  refine pm_enter rfl (Nat.le_of_ble_eq_true rfl) ?_
  show pm_V e_X10_swapped 0 [some (.ref 44), some (.int (nI r)), some (.int (nI o)), none, none, none, none] [] (pmM h mi ml A B) (0, 0) _
  refine r_iload_2 d_X10_swapped_0 ?_
  refine r_push (v := nI 0) d_X10_swapped_1 ?_
  refine r_push (v := nI 2) d_X10_swapped_2 ?_
  refine r_S3 d_X10_swapped_3 (c_X10_inN (by omega) (by omega) (by omega)) ⟨rfl, rfl⟩ (Nat.le_of_ble_eq_true rfl) ?_
  refine r_if_ne d_X10_swapped_6 (fun c6 => ?_) (fun c6 => absurd c6 (by decide))
  clear c6
  refine r_aload_0 d_X10_swapped_11 ?_
  refine r_iload_1 d_X10_swapped_12 ?_
  refine r_V1 d_X10_swapped_13 (c_X10_looked hr hz hz64) rfl rfl rfl ⟨rfl, rfl⟩ (Nat.le_of_ble_eq_true rfl) ?_
  show pm_V _ _ _ (.int (nI 0) :: _) _ _ _
  refine r_istore_3 d_X10_swapped_16 (Nat.le_of_ble_eq_true rfl) (fun w hw => by cases hw <;> rfl) ?_
  refine r_iload_3 d_X10_swapped_17 ?_
  refine r_if_ge d_X10_swapped_18 (fun c18 => ?_) (fun c18 => absurd (by decide) c18)
  clear c18
  refine r_aload_0 d_X10_swapped_23 ?_
  refine r_iload_1 d_X10_swapped_24 ?_
  refine r_iload_2 d_X10_swapped_25 ?_
  refine r_V2 d_X10_swapped_26 (c_X10_misfitsOf hr hz hz64 (ord := o) (by omega)) rfl rfl rfl ⟨rfl, rfl⟩ (Nat.le_of_ble_eq_true rfl) ?_
  refine r_if_ne d_X10_swapped_29 (fun c29 => ?_) (fun c29 => ?_)
  · -- taken at 29
    have c29 : ¬ (sp_mc o (fun q => A 63 (64 * r + q)) z) = 0 := fun zz9 => c29 ((nI_eq (a := (sp_mc o (fun q => A 63 (64 * r + q)) z)) (b := 0) (by omega) (by omega)).mpr zz9)
    refine r_push (v := nI 0) d_X10_swapped_34 ?_
    refine r_istore_4 d_X10_swapped_35 (Nat.le_of_ble_eq_true rfl) (fun w hw => by cases hw <;> rfl) ?_
    rw [if_neg c29]
    exact lp_X10_swapped hr hz hz64 ho z 0 (by omega) none none
  · -- not taken at 29
    have c29 : (sp_mc o (fun q => A 63 (64 * r + q)) z) = 0 := (nI_eq (a := (sp_mc o (fun q => A 63 (64 * r + q)) z)) (b := 0) (by omega) (by omega)).mp c29
    refine r_push (v := nI 0) d_X10_swapped_32 ?_
    refine r_ireturn d_X10_swapped_33 ⟨_, rfl, rfl⟩ ?_
    exact ⟨by rw [if_pos c29]; rfl, rfl⟩
