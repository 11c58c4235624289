/-! a caster's odds: the weights of its lines and their whole -/
def sp_Wt (kd n k f lo hi : Nat) (w0 Hp Nx : Nat → Nat) : (Nat → Nat) × Nat := if kd = 0 then (va_up (pm_fl 0 w0 31) 7 1, 1) else if kd = 2 then (va_up (va_up (va_up (va_up (pm_fl 0 w0 31) 6 1) 7 3) 8 3) 9 1, 8) else (sp_ww k (sp_S3 k f lo hi n Hp Nx 3).1 (pm_fl 0 w0 31) 61, (sp_S3 k f lo hi n Hp Nx 3).2.2)
def sp_kk (kd n k f lo hi : Nat) : Prop := kd = 0 ∨ kd = 2 ∨ ((kd = 1 ∨ kd = 3) ∧ pm_ok n k f lo hi)
theorem sp_Wt_ok {kd n k f lo hi : Nat} {w0 Hp Nx : Nat → Nat} (h : sp_kk kd n k f lo hi) : 0 < (sp_Wt kd n k f lo hi w0 Hp Nx).2 ∧ (sp_Wt kd n k f lo hi w0 Hp Nx).2 < 2 ^ 40 ∧ sp_sum (sp_Wt kd n k f lo hi w0 Hp Nx).1 31 = (sp_Wt kd n k f lo hi w0 Hp Nx).2 := by
  have ez : sp_sum (pm_fl 0 w0 31) 31 = 0 := sp_sum_z (fun j hj => if_pos hj)
  rcases h with rfl | rfl | ⟨hk, ok⟩
  · refine ⟨by show 0 < 1; decide, by show 1 < 2 ^ 40; decide, ?_⟩
    show sp_sum (va_up (pm_fl 0 w0 31) 7 1) 31 = 1
    have := sp_sum_up (f := pm_fl 0 w0 31) (k := 7) (v := 1) (n := 31) (by decide)
    rw [ez, show pm_fl 0 w0 31 7 = 0 from rfl] at this
    omega
  · refine ⟨by show 0 < 8; decide, by show 8 < 2 ^ 40; decide, ?_⟩
    show sp_sum (va_up (va_up (va_up (va_up (pm_fl 0 w0 31) 6 1) 7 3) 8 3) 9 1) 31 = 8
    have h1 := sp_sum_up (f := pm_fl 0 w0 31) (k := 6) (v := 1) (n := 31) (by decide)
    have h2 := sp_sum_up (f := va_up (pm_fl 0 w0 31) 6 1) (k := 7) (v := 3) (n := 31) (by decide)
    have h3 := sp_sum_up (f := va_up (va_up (pm_fl 0 w0 31) 6 1) 7 3) (k := 8) (v := 3) (n := 31) (by decide)
    have h4 := sp_sum_up (f := va_up (va_up (va_up (pm_fl 0 w0 31) 6 1) 7 3) 8 3) (k := 9) (v := 1) (n := 31) (by decide)
    rw [ez, show pm_fl 0 w0 31 6 = 0 from rfl] at h1
    rw [show va_up (pm_fl 0 w0 31) 6 1 7 = 0 from rfl] at h2
    rw [show va_up (va_up (pm_fl 0 w0 31) 6 1) 7 3 8 = 0 from rfl] at h3
    rw [show va_up (va_up (va_up (pm_fl 0 w0 31) 6 1) 7 3) 8 3 9 = 0 from rfl] at h4
    omega
  · have e : sp_Wt kd n k f lo hi w0 Hp Nx = (sp_ww k (sp_S3 k f lo hi n Hp Nx 3).1 (pm_fl 0 w0 31) 61, (sp_S3 k f lo hi n Hp Nx 3).2.2) := by
      unfold sp_Wt; rw [if_neg (by omega), if_neg (by omega)]
    rw [e]
    obtain ⟨-, hS⟩ := sp_S3_ok (Hp := Hp) (Nx := Nx) ok ⟨ok.1, ok.2.1⟩
    obtain ⟨s1, s2, s3⟩ := hS 3 (by decide)
    refine ⟨s2, s3, ?_⟩
    show sp_sum (sp_ww k (sp_S3 k f lo hi n Hp Nx 3).1 (pm_fl 0 w0 31) 61) 31 = _
    rw [sp_ww_sum ok.2.2.1 61 (by decide), ez, s1, Nat.zero_add]
theorem m_cas_kk {A : Nat → Nat → Int32} {c kd n k f lo hi : Nat} (h : m_cas A c kd n k f lo hi) : sp_kk kd n k f lo hi := by
  obtain ⟨-, ⟨h1 | h1, -⟩ | ⟨h1, h2, h3, -, h4, -⟩⟩ := h
  · exact Or.inl h1
  · exact Or.inr (Or.inl h1)
  · obtain ⟨k1, k2, k3, k4, k5, k6, -⟩ := h4
    exact Or.inr (Or.inr ⟨h1, h2, h3, k1, k2, k3, k4, k5, k6⟩)
set_option maxRecDepth 10000 in
set_option maxHeartbeats 4000000 in
theorem c_X10_setOdds {h : pm_H} {mi : Nat → Int32} {ml : Nat → Int64} {A : Nat → Nat → Int32} {B : Nat → Nat → Int64} {c kd n k f lo hi : Nat} {w0 Hp Nx : Nat → Nat} (hc : c < 10) (hs : m_cas A c kd n k f lo hi) : pm_Cl e_X10_setOdds [.ref 44, .int (nI c)] (pmM h mi ml A B) (fun v9 h1 => v9 = none ∧ ∃ mx B1, h1 = pmM h mi mx A B1 ∧ m_ml ml mx ∧ m_US (B1 56) (B1 57) (sp_Wt kd n k f lo hi w0 Hp Nx).1 (sp_Wt kd n k f lo hi w0 Hp Nx).2 31) := by
  obtain ⟨h0, ⟨h1 | h1, -⟩ | ⟨h1, h2, h3, h5, h4, -⟩⟩ := hs
  · subst h1; exact c_X10_setOdds0 (w0 := w0) hc h0
  · subst h1; exact c_X10_setOdds2 (w0 := w0) hc h0
  · have e : sp_Wt kd n k f lo hi w0 Hp Nx = (sp_ww k (sp_S3 k f lo hi n Hp Nx 3).1 (pm_fl 0 w0 31) 61, (sp_S3 k f lo hi n Hp Nx 3).2.2) := by
      unfold sp_Wt; rw [if_neg (by omega), if_neg (by omega)]
    rw [e]
    exact c_X10_setOdds1 hc h0 h1 h5 ⟨h2, h3⟩ h4
set_option maxRecDepth 10000 in
set_option maxHeartbeats 4000000 in
theorem c_X10_odds_none {h : pm_H} {mi : Nat → Int32} {ml : Nat → Int64} {A : Nat → Nat → Int32} {B : Nat → Nat → Int64} {c v : Int32} {cn : Nat} (hcn : mi 1 = nI cn) (hn10 : cn ≤ 10) (hci : (pm_ci c cn).isSome = false) : pm_Cv e_X10_odds [.ref 44, .int c, .int v] (pmM h mi ml A B) (.int (-1)) (pmM h mi ml A B) := by
  refine pm_enter rfl (Nat.le_of_ble_eq_true rfl) ?_
  show pm_V e_X10_odds 0 [some (.ref 44), some (.int c), some (.int v)] [] (pmM h mi ml A B) (0, 0) _
  refine r_aload_0 d_X10_odds_0 ?_
  refine r_iload_1 d_X10_odds_1 ?_
  refine r_V1 d_X10_odds_2 (c_X10_isCaster hcn hn10) rfl rfl rfl ⟨rfl, rfl⟩ (Nat.le_of_ble_eq_true rfl) ?_
  rw [hci]
  show pm_V _ _ _ (.int (nI 0) :: _) _ _ _
  refine r_if_eq d_X10_odds_5 (fun c5 => ?_) (fun c5 => absurd (by decide) c5)
  clear c5
  refine r_push d_X10_odds_18 ?_
  refine r_ireturn d_X10_odds_19 ⟨_, rfl, rfl⟩ ?_
  exact ⟨rfl, rfl⟩

set_option maxRecDepth 10000 in
set_option maxHeartbeats 4000000 in
theorem c_X10_odds_bad {h : pm_H} {mi : Nat → Int32} {ml : Nat → Int64} {A : Nat → Nat → Int32} {B : Nat → Nat → Int64} {c v : Int32} {cn : Nat} (hcn : mi 1 = nI cn) (hn10 : cn ≤ 10) (hci : (pm_ci c cn).isSome = true) (hv : sp_in v 0 30 = false) : pm_Cv e_X10_odds [.ref 44, .int c, .int v] (pmM h mi ml A B) (.int (-1)) (pmM h mi ml A B) := by
  refine pm_enter rfl (Nat.le_of_ble_eq_true rfl) ?_
  show pm_V e_X10_odds 0 [some (.ref 44), some (.int c), some (.int v)] [] (pmM h mi ml A B) (0, 0) _
  refine r_aload_0 d_X10_odds_0 ?_
  refine r_iload_1 d_X10_odds_1 ?_
  refine r_V1 d_X10_odds_2 (c_X10_isCaster hcn hn10) rfl rfl rfl ⟨rfl, rfl⟩ (Nat.le_of_ble_eq_true rfl) ?_
  rw [hci]
  show pm_V _ _ _ (.int (nI 1) :: _) _ _ _
  refine r_if_eq d_X10_odds_5 (fun c5 => absurd c5 (by decide)) (fun c5 => ?_)
  clear c5
  refine r_iload_2 d_X10_odds_8 ?_
  refine r_push d_X10_odds_9 ?_
  refine r_push d_X10_odds_10 ?_
  refine r_S3 d_X10_odds_12 c_X10_in ⟨rfl, rfl⟩ (Nat.le_of_ble_eq_true rfl) ?_
  rw [hv]
  show pm_V _ _ _ (.int (nI 0) :: _) _ _ _
  refine r_if_ne d_X10_odds_15 (fun c15 => absurd (by decide) c15) (fun c15 => ?_)
  clear c15
  refine r_push d_X10_odds_18 ?_
  refine r_ireturn d_X10_odds_19 ⟨_, rfl, rfl⟩ ?_
  exact ⟨rfl, rfl⟩
set_option maxRecDepth 10000 in
set_option maxHeartbeats 4000000 in
theorem c_X10_odds {h : pm_H} {mi : Nat → Int32} {ml : Nat → Int64} {A : Nat → Nat → Int32} {B : Nat → Nat → Int64} {c kd n k f lo hi : Nat} {w0 Hp Nx : Nat → Nat} (hc : c < 10) (hs : m_cas A c kd n k f lo hi) {cn v : Nat} (hcn : mi 1 = nI cn) (hn10 : cn ≤ 10) (hcc : c < cn) (hv : v < 31) : pm_Cl e_X10_odds [.ref 44, .int (nI c), .int (nI v)] (pmM h mi ml A B) (fun v9 h1 => v9 = some (.int (nI 1)) ∧ ∃ mx B1, h1 = pmM h mi (vp_updL (vp_updL mx 1 (lN (m_u ((sp_Wt kd n k f lo hi w0 Hp Nx).1 v) (sp_Wt kd n k f lo hi w0 Hp Nx).2))) 2 (lN (m_l ((sp_Wt kd n k f lo hi w0 Hp Nx).1 v) (sp_Wt kd n k f lo hi w0 Hp Nx).2))) A B1 ∧ m_ml ml mx) := by
  obtain ⟨w1, w2, w3⟩ := sp_Wt_ok (w0 := w0) (Hp := Hp) (Nx := Nx) (m_cas_kk hs)
  have w4 := sp_sum_ge (f := (sp_Wt kd n k f lo hi w0 Hp Nx).1) (k := v) (n := 31) hv
  have w5 := m_u_le (w := (sp_Wt kd n k f lo hi w0 Hp Nx).1 v) (D := (sp_Wt kd n k f lo hi w0 Hp Nx).2)
  have w6 := m_l_le (w := (sp_Wt kd n k f lo hi w0 Hp Nx).1 v) (D := (sp_Wt kd n k f lo hi w0 Hp Nx).2)
  have w7 := m_l_pos (w := (sp_Wt kd n k f lo hi w0 Hp Nx).1 v) w1
  have w8 := m_cop (w := (sp_Wt kd n k f lo hi w0 Hp Nx).1 v) w1
  refine pm_enter rfl (Nat.le_of_ble_eq_true rfl) ?_
  show pm_V e_X10_odds 0 [some (.ref 44), some (.int (nI c)), some (.int (nI v))] [] (pmM h mi ml A B) (0, 0) _
  refine r_aload_0 d_X10_odds_0 ?_
  refine r_iload_1 d_X10_odds_1 ?_
  refine r_V1 d_X10_odds_2 (c_X10_isCaster hcn hn10) rfl rfl rfl ⟨rfl, rfl⟩ (Nat.le_of_ble_eq_true rfl) ?_
  rw [pm_ci_of hcc (by omega)]
  show pm_V _ _ _ (.int (nI 1) :: _) _ _ _
  refine r_if_eq d_X10_odds_5 (fun c5 => absurd c5 (by decide)) (fun c5 => ?_)
  clear c5
  refine r_iload_2 d_X10_odds_8 ?_
  refine r_push (v := nI 0) d_X10_odds_9 ?_
  refine r_push (v := nI 30) d_X10_odds_10 ?_
  refine r_S3 d_X10_odds_12 (c_X10_inN (by omega) (by omega) (by omega)) ⟨rfl, rfl⟩ (Nat.le_of_ble_eq_true rfl) ?_
  refine r_if_ne d_X10_odds_15 (fun c15 => ?_) (fun c15 => absurd c15 (by decide))
  clear c15
  refine r_aload_0 d_X10_odds_20 ?_
  refine r_iload_1 d_X10_odds_21 ?_
  refine r_V1p d_X10_odds_22 (c_X10_setOdds (w0 := w0) (Hp := Hp) (Nx := Nx) hc hs) rfl rfl rfl ⟨rfl, rfl⟩ (Nat.le_of_ble_eq_true rfl) ?_
  rintro v9 h9 ⟨rfl, mx, B1, rfl, hmm, hU⟩
  obtain ⟨u1, u2⟩ := hU v hv
  generalize sp_Wt kd n k f lo hi w0 Hp Nx = T at *
  show pm_V _ _ _ [] _ _ _
  refine r_aload_0 d_X10_odds_25 ?_
  refine r_aload_0 d_X10_odds_26 ?_
  refine r_get d_X10_odds_27 s10_oddsUp rfl rfl ?_
  refine r_iload_2 d_X10_odds_30 ?_
  refine r_lald d_X10_odds_31 rfl (pm_ixN (by omega) (by omega)) ?_
  rw [u1]
  refine r_aload_0 d_X10_odds_32 ?_
  refine r_get d_X10_odds_33 s10_oddsLow rfl rfl ?_
  refine r_iload_2 d_X10_odds_36 ?_
  refine r_lald d_X10_odds_37 rfl (pm_ixN (by omega) (by omega)) ?_
  rw [u2]
  refine r_V2 d_X10_odds_38 (c_X10_tell (u := m_u (T.1 v) T.2) (l := m_l (T.1 v) T.2) w7 (by omega) (by omega)) rfl rfl rfl ⟨rfl, rfl⟩ (Nat.le_of_ble_eq_true rfl) ?_
  rw [Nat.gcd_comm, w8, Nat.div_one, Nat.div_one]
  refine r_ireturn d_X10_odds_41 ⟨_, rfl, rfl⟩ ?_
  exact ⟨rfl, mx, B1, rfl, hmm⟩
set_option maxRecDepth 10000 in
set_option maxHeartbeats 4000000 in
theorem c_X10_mean_none {h : pm_H} {mi : Nat → Int32} {ml : Nat → Int64} {A : Nat → Nat → Int32} {B : Nat → Nat → Int64} {c : Int32} {cn : Nat} (hcn : mi 1 = nI cn) (hn10 : cn ≤ 10) (hci : (pm_ci c cn).isSome = false) : pm_Cv e_X10_mean [.ref 44, .int c] (pmM h mi ml A B) (.int (-1)) (pmM h mi ml A B) := by
  refine pm_enter rfl (Nat.le_of_ble_eq_true rfl) ?_
  show pm_V e_X10_mean 0 [some (.ref 44), some (.int c), none] [] (pmM h mi ml A B) (0, 0) _
  refine r_aload_0 d_X10_mean_0 ?_
  refine r_iload_1 d_X10_mean_1 ?_
  refine r_V1 d_X10_mean_2 (c_X10_isCaster hcn hn10) rfl rfl rfl ⟨rfl, rfl⟩ (Nat.le_of_ble_eq_true rfl) ?_
  rw [hci]
  show pm_V _ _ _ (.int (nI 0) :: _) _ _ _
  refine r_if_ne d_X10_mean_5 (fun c5 => absurd (by decide) c5) (fun c5 => ?_)
  clear c5
  refine r_push d_X10_mean_8 ?_
  refine r_ireturn d_X10_mean_9 ⟨_, rfl, rfl⟩ ?_
  exact ⟨rfl, rfl⟩
def sp_mn (W : Nat → Nat) : Nat → Nat
  | 0 => 0
  | v + 1 => sp_mn W v + v * W v
theorem sp_mn_le {W : Nat → Nat} : ∀ (n : Nat), n ≤ 31 → sp_mn W n ≤ 30 * sp_sum W n
  | 0, _ => Nat.le_refl _
  | n + 1, h => by
    have ih := sp_mn_le (W := W) n (by omega)
    have : n * W n ≤ 30 * W n := Nat.mul_le_mul_right _ (by omega)
    show sp_mn W n + n * W n ≤ 30 * (sp_sum W n + W n)
    omega
theorem m_ml_uu {mx : Nat → Int64} {a b x y : Int64} : vp_updL (vp_updL (vp_updL (vp_updL mx 3 a) 4 b) 3 x) 4 y = vp_updL (vp_updL mx 3 x) 4 y := by
  funext q
  simp only [vp_updL]
  by_cases e4 : q = 4
  · simp [e4]
  · by_cases e3 : q = 3 <;> simp [e3, e4]
set_option maxRecDepth 10000 in
set_option maxHeartbeats 4000000 in
theorem lp_X10_mean {h : pm_H} {mi : Nat → Int32} {ml : Nat → Int64} {A : Nat → Nat → Int32} {B : Nat → Nat → Int64} {c D : Nat} {W : Nat → Nat} {mx : Nat → Int64} (hU : m_US (B 56) (B 57) W D 31) (hD : 0 < D) (hD2 : D < 2 ^ 40) (hsum : sp_sum W 31 = D) {F : Option Value → pm_H → Prop} {b9 : Nat × Nat} (K : pm_V e_X10_mean 66 [some (.ref 44), some (.int (nI c)), some (.int (nI 31))] [] (pmM h mi (vp_updL (vp_updL mx 3 (lN (m_u (sp_mn W 31) D))) 4 (lN (m_l (sp_mn W 31) D))) A B) b9 F) : ∀ (d i : Nat), i + d = 31 → pm_V e_X10_mean 27 [some (.ref 44), some (.int (nI c)), some (.int (nI i))] [] (pmM h mi (vp_updL (vp_updL mx 3 (lN (m_u (sp_mn W i) D))) 4 (lN (m_l (sp_mn W i) D))) A B) b9 F := by
  intro d
  induction d with
  | zero =>
    intro i hid
    obtain rfl : i = 31 := by omega
    refine r_iload_2 d_X10_mean_27 ?_
    refine r_push (v := nI 31) d_X10_mean_28 ?_
    refine r_icmp_ge d_X10_mean_30 (fun c30 => ?_) (fun c30 => absurd (by decide) c30)
    clear c30
    exact K
  | succ d ih =>
    intro i hid
    obtain ⟨u1, u2⟩ := hU i (by omega)
    have hle := sp_mn_le (W := W) (i + 1) (by omega)
    have hle : sp_mn W i + i * W i ≤ 30 * sp_sum W (i + 1) := hle
    have hmo := sp_sum_mo (f := W) (m := i + 1) (n := 31) (by omega)
    refine r_iload_2 d_X10_mean_27 ?_
    refine r_push (v := nI 31) d_X10_mean_28 ?_
    refine r_icmp_ge d_X10_mean_30 (fun c30 => ?_) (fun c30 => ?_)
    · -- taken at 30
      have c30 : 31 ≤ i := (nI_leI (a := 31) (b := i) (by omega) (by omega)).mp c30
      exfalso; omega
    · -- not taken at 30
      have c30 : ¬ 31 ≤ i := fun zz9 => c30 ((nI_leI (a := 31) (b := i) (by omega) (by omega)).mpr zz9)
      refine r_aload_0 d_X10_mean_33 ?_
      refine r_aload_0 d_X10_mean_34 ?_
      refine r_get d_X10_mean_35 s10_sumUp rfl rfl ?_
      refine r_aload_0 d_X10_mean_38 ?_
      refine r_get d_X10_mean_39 s10_sumLow rfl rfl ?_
      refine r_iload_2 d_X10_mean_42 ?_
      refine r_i2l d_X10_mean_43 ?_
      rw [nI_l (n := i) (by omega)]
      refine r_aload_0 d_X10_mean_44 ?_
      refine r_get d_X10_mean_45 s10_oddsUp rfl rfl ?_
      refine r_iload_2 d_X10_mean_48 ?_
      refine r_lald d_X10_mean_49 rfl (pm_ixN (by omega) (by omega)) ?_
      rw [u1]
      refine r_lmul d_X10_mean_50 ?_
      rw [lN_mul]
      refine r_aload_0 d_X10_mean_51 ?_
      refine r_get d_X10_mean_52 s10_oddsLow rfl rfl ?_
      refine r_iload_2 d_X10_mean_55 ?_
      refine r_lald d_X10_mean_56 rfl (pm_ixN (by omega) (by omega)) ?_
      rw [u2]
      refine r_V4v d_X10_mean_57 (c_X10_add (w := sp_mn W i) (D := D) (c := i * m_u (W i) D) (d := m_l (W i) D) (e := i * W i) hD (by omega) m_l_dvd (by rw [Nat.mul_assoc, m_ul, Nat.mul_assoc]) (by omega)) rfl rfl rfl ⟨rfl, rfl⟩ (Nat.le_of_ble_eq_true rfl) ?_
      rw [m_ml_uu]
      refine r_iinc_2 d_X10_mean_60 (Nat.le_of_ble_eq_true rfl) (fun w hw => by cases hw <;> rfl) ?_
      rw [nI_1]
      refine r_goto d_X10_mean_63 ?_
      exact ih (i + 1) (by omega)
set_option maxRecDepth 10000 in
set_option maxHeartbeats 4000000 in
theorem c_X10_mean {h : pm_H} {mi : Nat → Int32} {ml : Nat → Int64} {A : Nat → Nat → Int32} {B : Nat → Nat → Int64} {c kd n k f lo hi : Nat} {w0 Hp Nx : Nat → Nat} (hc : c < 10) (hs : m_cas A c kd n k f lo hi) {cn : Nat} (hcn : mi 1 = nI cn) (hn10 : cn ≤ 10) (hcc : c < cn) : pm_Cl e_X10_mean [.ref 44, .int (nI c)] (pmM h mi ml A B) (fun v9 h1 => v9 = some (.int (nI 1)) ∧ ∃ mx B1, h1 = pmM h mi (vp_updL (vp_updL mx 1 (lN (m_u (sp_mn (sp_Wt kd n k f lo hi w0 Hp Nx).1 31) (sp_Wt kd n k f lo hi w0 Hp Nx).2))) 2 (lN (m_l (sp_mn (sp_Wt kd n k f lo hi w0 Hp Nx).1 31) (sp_Wt kd n k f lo hi w0 Hp Nx).2))) A B1 ∧ m_ml ml mx) := by
  obtain ⟨w1, w2, w3⟩ := sp_Wt_ok (w0 := w0) (Hp := Hp) (Nx := Nx) (m_cas_kk hs)
  have w4 := sp_mn_le (W := (sp_Wt kd n k f lo hi w0 Hp Nx).1) 31 (by decide)
  have w5 := m_u_le (w := sp_mn (sp_Wt kd n k f lo hi w0 Hp Nx).1 31) (D := (sp_Wt kd n k f lo hi w0 Hp Nx).2)
  have w6 := m_l_le (w := sp_mn (sp_Wt kd n k f lo hi w0 Hp Nx).1 31) (D := (sp_Wt kd n k f lo hi w0 Hp Nx).2)
  have w7 := m_l_pos (w := sp_mn (sp_Wt kd n k f lo hi w0 Hp Nx).1 31) w1
  have w8 := m_cop (w := sp_mn (sp_Wt kd n k f lo hi w0 Hp Nx).1 31) w1
  refine pm_enter rfl (Nat.le_of_ble_eq_true rfl) ?_
  show pm_V e_X10_mean 0 [some (.ref 44), some (.int (nI c)), none] [] (pmM h mi ml A B) (0, 0) _
  refine r_aload_0 d_X10_mean_0 ?_
  refine r_iload_1 d_X10_mean_1 ?_
  refine r_V1 d_X10_mean_2 (c_X10_isCaster hcn hn10) rfl rfl rfl ⟨rfl, rfl⟩ (Nat.le_of_ble_eq_true rfl) ?_
  rw [pm_ci_of hcc (by omega)]
  show pm_V _ _ _ (.int (nI 1) :: _) _ _ _
  refine r_if_ne d_X10_mean_5 (fun c5 => ?_) (fun c5 => absurd c5 (by decide))
  clear c5
  refine r_aload_0 d_X10_mean_10 ?_
  refine r_iload_1 d_X10_mean_11 ?_
  refine r_V1p d_X10_mean_12 (c_X10_setOdds (w0 := w0) (Hp := Hp) (Nx := Nx) hc hs) rfl rfl rfl ⟨rfl, rfl⟩ (Nat.le_of_ble_eq_true rfl) ?_
  rintro v9 h9 ⟨rfl, mx, B1, rfl, hmm, hU⟩
  generalize sp_Wt kd n k f lo hi w0 Hp Nx = T at *
  show pm_V _ _ _ [] _ _ _
  refine r_aload_0 d_X10_mean_15 ?_
  refine r_pushl (v := lN 0) d_X10_mean_16 ?_
  refine r_put d_X10_mean_17 s10_sumUp rfl (Nat.le_of_ble_eq_true rfl) ⟨rfl, rfl⟩ ?_
  rw [pmM_sumUp]
  refine r_aload_0 d_X10_mean_20 ?_
  refine r_pushl (v := lN 1) d_X10_mean_21 ?_
  refine r_put d_X10_mean_22 s10_sumLow rfl (Nat.le_of_ble_eq_true rfl) ⟨rfl, rfl⟩ ?_
  rw [pmM_sumLow]
  refine r_push (v := nI 0) d_X10_mean_25 ?_
  refine r_istore_2 d_X10_mean_26 (Nat.le_of_ble_eq_true rfl) (fun w hw => by cases hw <;> rfl) ?_
  have e0 : vp_updL (vp_updL mx 3 (lN 0)) 4 (lN 1) = vp_updL (vp_updL mx 3 (lN (m_u (sp_mn T.1 0) T.2))) 4 (lN (m_l (sp_mn T.1 0) T.2)) := by
    rw [show sp_mn T.1 0 = 0 from rfl, m_u0, m_l0 w1]
  rw [e0]
  refine lp_X10_mean (ml := ml) hU w1 w2 w3 ?_ 31 0 (by omega)
  refine r_aload_0 d_X10_mean_66 ?_
  refine r_aload_0 d_X10_mean_67 ?_
  refine r_get d_X10_mean_68 s10_sumUp rfl rfl ?_
  refine r_aload_0 d_X10_mean_71 ?_
  refine r_get d_X10_mean_72 s10_sumLow rfl rfl ?_
  refine r_V2 d_X10_mean_75 (c_X10_tell (u := m_u (sp_mn T.1 31) T.2) (l := m_l (sp_mn T.1 31) T.2) w7 (by omega) (by omega)) rfl rfl rfl ⟨rfl, rfl⟩ (Nat.le_of_ble_eq_true rfl) ?_
  rw [Nat.gcd_comm, w8, Nat.div_one, Nat.div_one]
  refine r_ireturn d_X10_mean_78 ⟨_, rfl, rfl⟩ ?_
  exact ⟨rfl, _, B1, rfl, m_ml_s hmm⟩
def sp_ptw (T : (Nat → Nat) × Nat) (v : Nat) : Nat := 1000000 * T.1 v / T.2
theorem sp_ptw_le {T : (Nat → Nat) × Nat} {v : Nat} (h0 : 0 < T.2) (h : T.1 v ≤ T.2) : sp_ptw T v ≤ 1000000 := by
  unfold sp_ptw
  exact Nat.div_le_of_le_mul (by rw [Nat.mul_comm]; exact Nat.mul_le_mul_right _ h)
theorem m_dig2 {u l t : Nat} (hl : 0 < l) : 10 * (u * 10 ^ t / l) + (u * 10 ^ t % l) * 10 / l = u * 10 ^ (t + 1) / l ∧ (u * 10 ^ t % l) * 10 % l = u * 10 ^ (t + 1) % l := by
  have := m_dig (u := u * 10 ^ t) (l := l) hl rfl rfl
  rw [Nat.pow_succ, ← Nat.mul_assoc, Nat.mul_comm (u * 10 ^ t % l) 10]
  exact this
set_option maxRecDepth 10000 in
set_option maxHeartbeats 4000000 in
theorem li_X10_setShares {h : pm_H} {mi : Nat → Int32} {ml : Nat → Int64} {A : Nat → Nat → Int32} {B : Nat → Nat → Int64} {c i u l : Nat} (hid : i < 31) (hl : B 57 i = lN l) (hl0 : 0 < l) (hl2 : l < 2 ^ 40) {F : Option Value → pm_H → Prop} {b9 : Nat × Nat} (K : pm_V e_X10_setShares 88 [some (.ref 44), some (.int (nI c)), some (.int (nI i)), some (.long (lN (u * 10 ^ 6 % l))), none, some (.int (nI (u * 10 ^ 6 / l))), some (.int (nI 6))] [] (pmM h mi ml A B) b9 F) : ∀ (d t : Nat), t + d = 6 → pm_V e_X10_setShares 43 [some (.ref 44), some (.int (nI c)), some (.int (nI i)), some (.long (lN (u * 10 ^ t % l))), none, some (.int (nI (u * 10 ^ t / l))), some (.int (nI t))] [] (pmM h mi ml A B) b9 F := by
  intro d
  induction d with
  | zero =>
    intro t ht
    obtain rfl : t = 6 := by omega
    refine r_iload_6 d_X10_setShares_43 ?_
    refine r_push (v := nI 6) d_X10_setShares_45 ?_
    refine r_icmp_ge d_X10_setShares_47 (fun c47 => ?_) (fun c47 => absurd (by decide) c47)
    clear c47
    exact K
  | succ d ih =>
    intro t ht
    have hr := Nat.mod_lt (u * 10 ^ t) hl0
    have K1 := ih (t + 1) (by omega)
    obtain ⟨d1, d2⟩ := m_dig2 (u := u) (t := t) hl0
    rw [← d1, ← d2] at K1
    generalize u * 10 ^ t % l = r at hr K1 ⊢
    generalize u * 10 ^ t / l = s at K1 ⊢
    refine r_iload_6 d_X10_setShares_43 ?_
    refine r_push (v := nI 6) d_X10_setShares_45 ?_
    refine r_icmp_ge d_X10_setShares_47 (fun c47 => ?_) (fun c47 => ?_)
    · -- taken at 47
      have c47 : 6 ≤ t := (nI_leI (a := 6) (b := t) (by omega) (by omega)).mp c47
      exfalso; omega
    · -- not taken at 47
      have c47 : ¬ 6 ≤ t := fun zz9 => c47 ((nI_leI (a := 6) (b := t) (by omega) (by omega)).mpr zz9)
      refine r_lload_3 d_X10_setShares_50 ?_
      refine r_pushl (v := lN 10) d_X10_setShares_51 ?_
      refine r_lmul d_X10_setShares_54 ?_
      rw [lN_mul]
      refine r_lstore_3 d_X10_setShares_55 (Nat.le_of_ble_eq_true rfl) (fun w hw => by cases hw <;> rfl) ?_
      refine r_push (v := nI 10) d_X10_setShares_56 ?_
      refine r_iload_5 d_X10_setShares_58 ?_
      refine r_imul d_X10_setShares_60 ?_
      rw [pk_mul]
      refine r_lload_3 d_X10_setShares_61 ?_
      refine r_aload_0 d_X10_setShares_62 ?_
      refine r_get d_X10_setShares_63 s10_oddsLow rfl rfl ?_
      refine r_iload_2 d_X10_setShares_66 ?_
      refine r_lald d_X10_setShares_67 rfl (pm_ixN (by omega) (by omega)) ?_
      rw [hl]
      refine r_ldiv d_X10_setShares_68 (pm_lne0 (n := l) (by omega) (by omega)) ?_
      rw [pk_lDiv (a := (r * 10)) (b := l) (by omega) (by omega) (by omega)]
      refine r_l2i d_X10_setShares_69 ?_
      rw [lN_i]
      refine r_iadd d_X10_setShares_70 ?_
      rw [nI_add]
      refine r_istore_5 d_X10_setShares_71 (Nat.le_of_ble_eq_true rfl) (fun w hw => by cases hw <;> rfl) ?_
      refine r_lload_3 d_X10_setShares_73 ?_
      refine r_aload_0 d_X10_setShares_74 ?_
      refine r_get d_X10_setShares_75 s10_oddsLow rfl rfl ?_
      refine r_iload_2 d_X10_setShares_78 ?_
      refine r_lald d_X10_setShares_79 rfl (pm_ixN (by omega) (by omega)) ?_
      rw [hl]
      refine r_lrem d_X10_setShares_80 (pm_lne0 (n := l) (by omega) (by omega)) ?_
      rw [pk_lRem (a := (r * 10)) (b := l) (by omega) (by omega) (by omega)]
      refine r_lstore_3 d_X10_setShares_81 (Nat.le_of_ble_eq_true rfl) (fun w hw => by cases hw <;> rfl) ?_
      refine r_iinc_6 d_X10_setShares_82 (Nat.le_of_ble_eq_true rfl) (fun w hw => by cases hw <;> rfl) ?_
      rw [nI_1]
      refine r_goto d_X10_setShares_85 ?_
      exact K1
set_option maxRecDepth 10000 in
set_option maxHeartbeats 4000000 in
theorem lo_X10_setShares {h : pm_H} {mi : Nat → Int32} {ml : Nat → Int64} {A : Nat → Nat → Int32} {B : Nat → Nat → Int64} {c : Nat} {T : (Nat → Nat) × Nat} (hU : m_US (B 56) (B 57) T.1 T.2 31) (hD : 0 < T.2) (hD2 : T.2 < 2 ^ 40) (hW : ∀ j, j < 31 → T.1 j ≤ T.2) {F : Option Value → pm_H → Prop} {b9 : Nat × Nat} (K : ∀ o3 o4 o5 o6, pm_V e_X10_setShares 102 [some (.ref 44), some (.int (nI c)), some (.int (nI 31)), o3, o4, o5, o6] [] (pmM h mi ml (va_up A 66 (pm_fc (fun j => nI (sp_ptw T j)) (A 66) 31)) B) b9 F) : ∀ (d i : Nat) (o3 o4 o5 o6 : Option Value), i + d = 31 → pm_V e_X10_setShares 7 [some (.ref 44), some (.int (nI c)), some (.int (nI i)), o3, o4, o5, o6] [] (pmM h mi ml (va_up A 66 (pm_fc (fun j => nI (sp_ptw T j)) (A 66) i)) B) b9 F := by
  intro d
  induction d with
  | zero =>
    intro i o3 o4 o5 o6 hid
    obtain rfl : i = 31 := by omega
    refine r_iload_2 d_X10_setShares_7 ?_
    refine r_push (v := nI 31) d_X10_setShares_8 ?_
    refine r_icmp_ge d_X10_setShares_10 (fun c10 => ?_) (fun c10 => absurd (by decide) c10)
    clear c10
    exact K _ _ _ _
  | succ d ih =>
    intro i o3 o4 o5 o6 hid
    obtain ⟨u1, u2⟩ := hU i (by omega)
    have hWi := hW i (by omega)
    have hl0 := m_l_pos (w := T.1 i) hD
    have hl2 := m_l_le (w := T.1 i) (D := T.2)
    have hu2 := m_u_le (w := T.1 i) (D := T.2)
    have hsh := m_share (w := T.1 i) hD
    generalize m_u (T.1 i) T.2 = u at u1 hu2 hsh
    generalize m_l (T.1 i) T.2 = l at u2 hl0 hl2 hsh
    refine r_iload_2 d_X10_setShares_7 ?_
    refine r_push (v := nI 31) d_X10_setShares_8 ?_
    refine r_icmp_ge d_X10_setShares_10 (fun c10 => ?_) (fun c10 => ?_)
    · -- taken at 10
      have c10 : 31 ≤ i := (nI_leI (a := 31) (b := i) (by omega) (by omega)).mp c10
      exfalso; omega
    · -- not taken at 10
      have c10 : ¬ 31 ≤ i := fun zz9 => c10 ((nI_leI (a := 31) (b := i) (by omega) (by omega)).mpr zz9)
      refine r_aload_0 d_X10_setShares_13 ?_
      refine r_get d_X10_setShares_14 s10_oddsUp rfl rfl ?_
      refine r_iload_2 d_X10_setShares_17 ?_
      refine r_lald d_X10_setShares_18 rfl (pm_ixN (by omega) (by omega)) ?_
      rw [u1]
      refine r_lstore_3 d_X10_setShares_19 (Nat.le_of_ble_eq_true rfl) (fun w hw => by cases hw <;> rfl) ?_
      refine r_lload_3 d_X10_setShares_20 ?_
      refine r_aload_0 d_X10_setShares_21 ?_
      refine r_get d_X10_setShares_22 s10_oddsLow rfl rfl ?_
      refine r_iload_2 d_X10_setShares_25 ?_
      refine r_lald d_X10_setShares_26 rfl (pm_ixN (by omega) (by omega)) ?_
      rw [u2]
      refine r_ldiv d_X10_setShares_27 (pm_lne0 (n := l) (by omega) (by omega)) ?_
      rw [pk_lDiv (a := u) (b := l) (by omega) (by omega) (by omega)]
      refine r_l2i d_X10_setShares_28 ?_
      rw [lN_i]
      refine r_istore_5 d_X10_setShares_29 (Nat.le_of_ble_eq_true rfl) (fun w hw => by cases hw <;> rfl) ?_
      refine r_lload_3 d_X10_setShares_31 ?_
      refine r_aload_0 d_X10_setShares_32 ?_
      refine r_get d_X10_setShares_33 s10_oddsLow rfl rfl ?_
      refine r_iload_2 d_X10_setShares_36 ?_
      refine r_lald d_X10_setShares_37 rfl (pm_ixN (by omega) (by omega)) ?_
      rw [u2]
      refine r_lrem d_X10_setShares_38 (pm_lne0 (n := l) (by omega) (by omega)) ?_
      rw [pk_lRem (a := u) (b := l) (by omega) (by omega) (by omega)]
      refine r_lstore_3 d_X10_setShares_39 (Nat.le_of_ble_eq_true rfl) (fun w hw => by cases hw <;> rfl) ?_
      refine r_push (v := nI 0) d_X10_setShares_40 ?_
      refine r_istore_6 d_X10_setShares_41 (Nat.le_of_ble_eq_true rfl) (fun w hw => by cases hw <;> rfl) ?_
      rw [show u % l = u * 10 ^ 0 % l by rw [Nat.pow_zero, Nat.mul_one], show u / l = u * 10 ^ 0 / l by rw [Nat.pow_zero, Nat.mul_one]]
      refine li_X10_setShares (A := va_up A 66 (pm_fc (fun j => nI (sp_ptw T j)) (A 66) i)) (by omega) u2 hl0 (by omega) ?_ 6 0 (by omega)
      rw [show u * 10 ^ 6 / l = sp_ptw T i from hsh]
      refine r_aload_0 d_X10_setShares_88 ?_
      refine r_get d_X10_setShares_89 s10_shares rfl rfl ?_
      refine r_iload_2 d_X10_setShares_92 ?_
      refine r_iload_5 d_X10_setShares_93 ?_
      refine r_iast d_X10_setShares_95 rfl (pm_ixN (by omega) (by omega)) ?_
      rw [pmM_shares, m_aua, show upd (va_up A 66 (pm_fc (fun j => nI (sp_ptw T j)) (A 66) i) 66) i (nI (sp_ptw T i)) = pm_fc (fun j => nI (sp_ptw T j)) (A 66) (i + 1) from pm_fc_s _ _ _]
      refine r_iinc_2 d_X10_setShares_96 (Nat.le_of_ble_eq_true rfl) (fun w hw => by cases hw <;> rfl) ?_
      rw [nI_1]
      refine r_goto d_X10_setShares_99 ?_
      exact ih (i + 1) _ _ _ _ (by omega)
set_option maxRecDepth 10000 in
set_option maxHeartbeats 4000000 in
theorem c_X10_setShares {h : pm_H} {mi : Nat → Int32} {ml : Nat → Int64} {A : Nat → Nat → Int32} {B : Nat → Nat → Int64} {c kd n k f lo hi : Nat} {w0 Hp Nx : Nat → Nat} (hc : c < 10) (hs : m_cas A c kd n k f lo hi) : pm_Cl e_X10_setShares [.ref 44, .int (nI c)] (pmM h mi ml A B) (fun v9 h1 => v9 = none ∧ ∃ mx B1, h1 = pmM h mi mx (va_up A 66 (pm_fc (fun j => nI (sp_ptw (sp_Wt kd n k f lo hi w0 Hp Nx) j)) (A 66) 31)) B1 ∧ m_ml ml mx) := by
  obtain ⟨w1, w2, w3⟩ := sp_Wt_ok (w0 := w0) (Hp := Hp) (Nx := Nx) (m_cas_kk hs)
  have w4 : ∀ j, j < 31 → (sp_Wt kd n k f lo hi w0 Hp Nx).1 j ≤ (sp_Wt kd n k f lo hi w0 Hp Nx).2 := fun j hj => by rw [← w3]; exact sp_sum_ge hj
  refine pm_enter rfl (Nat.le_of_ble_eq_true rfl) ?_
  show pm_V e_X10_setShares 0 [some (.ref 44), some (.int (nI c)), none, none, none, none, none] [] (pmM h mi ml A B) (0, 0) _
  refine r_aload_0 d_X10_setShares_0 ?_
  refine r_iload_1 d_X10_setShares_1 ?_
  refine r_V1p d_X10_setShares_2 (c_X10_setOdds (w0 := w0) (Hp := Hp) (Nx := Nx) hc hs) rfl rfl rfl ⟨rfl, rfl⟩ (Nat.le_of_ble_eq_true rfl) ?_
  rintro v9 h9 ⟨rfl, mx, B1, rfl, hmm, hU⟩
  generalize sp_Wt kd n k f lo hi w0 Hp Nx = T at *
  show pm_V _ _ _ [] _ _ _
  refine r_push (v := nI 0) d_X10_setShares_5 ?_
  refine r_istore_2 d_X10_setShares_6 (Nat.le_of_ble_eq_true rfl) (fun w hw => by cases hw <;> rfl) ?_
  have eA : pmM h mi mx A B1 = pmM h mi mx (va_up A 66 (pm_fc (fun j => nI (sp_ptw T j)) (A 66) 0)) B1 := by rw [pm_fc_0, m_aus]
  rw [eA]
  refine lo_X10_setShares hU w1 w2 w4 (fun o3 o4 o5 o6 => ?_) 31 0 _ _ _ _ (by omega)
  refine r_return d_X10_setShares_102 rfl ?_
  exact ⟨rfl, mx, B1, rfl, hmm⟩
