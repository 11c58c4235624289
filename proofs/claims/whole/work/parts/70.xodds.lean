def pm_mn (w : Cond) : Bool := match w with
  | .methodLinkNest _ _ y _ => decide (y.1 ≠ "java/lang/Math")
  | _ => true
set_option maxRecDepth 100000 in
theorem pm_mnest : ∀ w ∈ pm_tbl, pm_mn w = true := by decide +kernel
theorem pm_noabs {c : String} : ∀ idx host, Cond.methodLinkNest c idx yJ9_abs_0f7a4 host ∉ pm_tbl := fun idx host hm => by
  have h1 := pm_mnest _ hm
  have h2 : yJ9_abs_0f7a4.1 ≠ "java/lang/Math" := of_decide_eq_true h1
  exact h2 rfl
theorem pmO_up {h : pm_H} {W Hp Nx : Nat → Nat} {al a : Nat} {c : pm_C} (ha : a < 13 ∨ 16 < a) : pm_up (pmO h W Hp Nx al) a c = pmO (pm_up h a c) W Hp Nx al := by
  refine Prod.ext rfl (funext fun q => ?_)
  show (if q = a then _ else if q = 13 then _ else if q = 14 then _ else if q = 15 then _ else if q = 16 then _ else _) = if q = 13 then _ else if q = 14 then _ else if q = 15 then _ else if q = 16 then _ else if q = a then _ else _
  by_cases e : q = a
  · subst e
    rw [if_pos rfl, if_neg (by omega), if_neg (by omega), if_neg (by omega), if_neg (by omega), if_pos rfl]
  · rw [if_neg e, if_neg e]
theorem pmO_O {h : pm_H} {W Hp Nx W' Hp' Nx' : Nat → Nat} {al al' : Nat} : pmO (pmO h W Hp Nx al) W' Hp' Nx' al' = pmO h W' Hp' Nx' al' := by
  refine Prod.ext rfl (funext fun q => ?_)
  show (if q = 13 then _ else if q = 14 then _ else if q = 15 then _ else if q = 16 then _ else if q = 13 then _ else if q = 14 then _ else if q = 15 then _ else if q = 16 then _ else _) = if q = 13 then _ else if q = 14 then _ else if q = 15 then _ else if q = 16 then _ else _
  by_cases e1 : q = 13
  · simp [e1]
  · by_cases e2 : q = 14
    · simp [e2]
    · by_cases e3 : q = 15
      · simp [e3]
      · by_cases e4 : q = 16 <;> simp [e1, e2, e3, e4]
theorem x_ab {p q : Nat} (hp : p < 2 ^ 30) (hq : q < 2 ^ 30) (s : Nat) : nI s + (if 0 ≤ nI p - nI q then nI p - nI q else 0 - (nI p - nI q)) = nI (s + (p - q + (q - p))) := by
  have sg := m_abd hp hq
  by_cases e : q ≤ p
  · rw [if_pos (sg.mpr e), m_ab1 e]
  · rw [if_neg (fun z => e (sg.mp z)), show (0 : Int32) - (nI p - nI q) = -(nI p - nI q) from Int32.zero_sub _, m_ab2 (by omega)]
set_option maxRecDepth 10000 in
set_option maxHeartbeats 4000000 in
theorem c_X9_tellFraction {h : pm_H} {xi : Nat → Int32} {xl : Nat → Int64} {xc : Nat → Option Nat} {XA : Nat → Nat → Int32} {XB : Nat → Nat → Int64} {u l : Nat} (hl : 0 < l) (hl2 : l < 2 ^ 40) (hu : u < 2 ^ 62) : pm_C0 e_X9_tellFraction [.ref 1, .long (lN u), .long (lN l)] (pmX h xi xl xc XA XB) (pmX h xi (vp_updL (vp_updL xl 1 (lN (m_u u l))) 2 (lN (m_l u l))) xc XA XB) := by
  obtain ⟨G, hG⟩ : ∃ G, Nat.gcd l u = G := ⟨_, rfl⟩
  have hG1 : 0 < G := by rw [← hG]; exact Nat.gcd_pos_of_pos_left _ hl
  have hG2 : G ≤ l := by rw [← hG]; exact Nat.le_of_dvd hl (Nat.gcd_dvd_left _ _)
  unfold m_u m_l
  rw [Nat.gcd_comm u l, hG]
  refine pm_enter rfl (Nat.le_of_ble_eq_true rfl) ?_
  show pm_V e_X9_tellFraction 0 [some (.ref 1), some (.long (lN u)), none, some (.long (lN l)), none, none, none] [] (pmX h xi xl xc XA XB) (0, 0) _
  refine r_lload_1 d_X9_tellFraction_0 ?_
  refine r_lload_3 d_X9_tellFraction_1 ?_
  refine r_S2 d_X9_tellFraction_2 (c_X9_commonDivisor (a := u) (b := l) (m := 40) hu hl2 (by decide)) ⟨rfl, rfl⟩ (Nat.le_of_ble_eq_true rfl) ?_
  rw [hG]
  refine r_lstore_5 d_X9_tellFraction_5 (Nat.le_of_ble_eq_true rfl) (fun w hw => by cases hw <;> rfl) ?_
  refine r_lload_5 d_X9_tellFraction_7 ?_
  refine r_pushl (v := lN 0) d_X9_tellFraction_9 ?_
  refine r_lcmp d_X9_tellFraction_10 ?_
  refine r_if_le d_X9_tellFraction_11 (fun c11 => ?_) (fun c11 => ?_)
  · -- taken at 11
    have c11 : G ≤ 0 := ((lg_cmp_le (lN (G)) (lN (0))).trans (pk_lLE (a := G) (b := 0) (by omega) (by omega))).mp c11
    exfalso; omega
  · -- not taken at 11
    have c11 : ¬ G ≤ 0 := fun zz9 => c11 (((lg_cmp_le (lN (G)) (lN (0))).trans (pk_lLE (a := G) (b := 0) (by omega) (by omega))).mpr zz9)
    refine r_aload_0 d_X9_tellFraction_14 ?_
    refine r_lload_1 d_X9_tellFraction_15 ?_
    refine r_lload_5 d_X9_tellFraction_16 ?_
    refine r_ldiv d_X9_tellFraction_18 (pm_lne0 (n := G) (by omega) (by omega)) ?_
    rw [pk_lDiv (a := u) (b := G) (by omega) (by omega) (by omega)]
    refine r_put d_X9_tellFraction_19 s9_fractionUpper rfl (Nat.le_of_ble_eq_true rfl) ⟨rfl, rfl⟩ ?_
    rw [pmX_upper]
    refine r_aload_0 d_X9_tellFraction_22 ?_
    refine r_lload_3 d_X9_tellFraction_23 ?_
    refine r_lload_5 d_X9_tellFraction_24 ?_
    refine r_ldiv d_X9_tellFraction_26 (pm_lne0 (n := G) (by omega) (by omega)) ?_
    rw [pk_lDiv (a := l) (b := G) (by omega) (by omega) (by omega)]
    refine r_put d_X9_tellFraction_27 s9_fractionLower rfl (Nat.le_of_ble_eq_true rfl) ⟨rfl, rfl⟩ ?_
    rw [pmX_lower]
    refine r_return d_X9_tellFraction_30 rfl ?_
    exact ⟨rfl, rfl⟩
set_option maxRecDepth 10000 in
set_option maxHeartbeats 4000000 in
theorem lp_X9_weighedDiffer {h : pm_H} {xi : Nat → Int32} {xl : Nat → Int64} {xc : Nat → Option Nat} {XA : Nat → Nat → Int32} {XB : Nat → Nat → Int64} {W Hp Nx p q : Nat → Nat} {al : Nat} (hp : ∀ j, j < 31 → XA 17 j = nI (p j)) (hq : ∀ j, j < 31 → XA 18 j = nI (q j)) (hps : ∀ j, j < 31 → p j ≤ 1000000) (hqs : ∀ j, j < 31 → q j ≤ 1000000) {F : Option Value → pm_H → Prop} {b : Nat × Nat} (K : pm_V e_X9_weighedDiffer 46 [some (.ref 1), some (.int (nI (sp_ad p q 31))), some (.int (nI 31))] [] (pmO (pmX h xi xl xc XA XB) W Hp Nx al) b F) : ∀ (d i : Nat), i + d = 31 → pm_V e_X9_weighedDiffer 15 [some (.ref 1), some (.int (nI (sp_ad p q i))), some (.int (nI i))] [] (pmO (pmX h xi xl xc XA XB) W Hp Nx al) b F := by
  intro d
  induction d with
  | zero =>
    intro i hid
    obtain rfl : i = 31 := by omega
    refine r_iload_2 d_X9_weighedDiffer_15 ?_
    refine r_push (v := nI 30) d_X9_weighedDiffer_16 ?_
    refine r_icmp_gt d_X9_weighedDiffer_18 (fun c18 => ?_) (fun c18 => absurd (by decide) c18)
    clear c18
    exact K
  | succ d ih =>
    intro i hid
    have p1 := hps i (by omega)
    have q1 := hqs i (by omega)
    have hpi := hp i (by omega)
    have hqi := hq i (by omega)
    have K1 := ih (i + 1) (by omega)
    rw [show sp_ad p q (i + 1) = sp_ad p q i + (p i - q i + (q i - p i)) from rfl] at K1
    generalize sp_ad p q i = s at K1 ⊢
    refine r_iload_2 d_X9_weighedDiffer_15 ?_
    refine r_push (v := nI 30) d_X9_weighedDiffer_16 ?_
    refine r_icmp_gt d_X9_weighedDiffer_18 (fun c18 => ?_) (fun c18 => ?_)
    · -- taken at 18
      have c18 : 30 < i := (nI_ltI (a := 30) (b := i) (by omega) (by omega)).mp c18
      exfalso; omega
    · -- not taken at 18
      have c18 : ¬ 30 < i := fun zz9 => c18 ((nI_ltI (a := 30) (b := i) (by omega) (by omega)).mpr zz9)
      refine r_iload_1 d_X9_weighedDiffer_21 ?_
      refine r_aload_0 d_X9_weighedDiffer_22 ?_
      refine r_get d_X9_weighedDiffer_23 s9_parts rfl rfl ?_
      refine r_iload_2 d_X9_weighedDiffer_26 ?_
      refine r_iald d_X9_weighedDiffer_27 rfl (pm_ixN (by omega) (by omega)) ?_
      rw [hpi]
      refine r_aload_0 d_X9_weighedDiffer_28 ?_
      refine r_get d_X9_weighedDiffer_29 s9_otherParts rfl rfl ?_
      refine r_iload_2 d_X9_weighedDiffer_32 ?_
      refine r_iald d_X9_weighedDiffer_33 rfl (pm_ixN (by omega) (by omega)) ?_
      rw [hqi]
      refine r_isub d_X9_weighedDiffer_34 ?_
      refine r_mabs d_X9_weighedDiffer_35 pm_noabs (Nat.le_of_ble_eq_true rfl) (Nat.le_of_ble_eq_true rfl) ?_
      refine r_iadd d_X9_weighedDiffer_38 ?_
      rw [x_ab (by omega) (by omega)]
      refine r_istore_1 d_X9_weighedDiffer_39 (Nat.le_of_ble_eq_true rfl) (fun w hw => by cases hw <;> rfl) ?_
      refine r_iinc_2 d_X9_weighedDiffer_40 (Nat.le_of_ble_eq_true rfl) (fun w hw => by cases hw <;> rfl) ?_
      rw [nI_1]
      refine r_goto d_X9_weighedDiffer_43 ?_
      exact K1
set_option maxRecDepth 10000 in
set_option maxHeartbeats 4000000 in
theorem c_X9_weighedDiffer {h : pm_H} {xi : Nat → Int32} {xl : Nat → Int64} {xc : Nat → Option Nat} {XA : Nat → Nat → Int32} {XB : Nat → Nat → Int64} {W Hp Nx q : Nat → Nat} {al : Nat} (hal : 1 ≤ al ∧ al < 2 ^ 40) (hw : ∀ j, j < 31 → W j ≤ al) (hq : ∀ j, j < 31 → XA 18 j = nI (q j)) (hqs : ∀ j, j < 31 → q j ≤ 1000000) : pm_Cv e_X9_weighedDiffer [.ref 1] (pmO (pmX h xi xl xc XA XB) W Hp Nx al) (.int (nI (sp_ad (fun j => 1000000 * W j / al) q 31))) (pmO (pmX h xi xl xc (va_up XA 17 (pm_fc (fun j => nI (1000000 * W j / al)) (XA 17) 31)) XB) W Hp Nx al) := by
  refine pm_enter rfl (Nat.le_of_ble_eq_true rfl) ?_
  show pm_V e_X9_weighedDiffer 0 [some (.ref 1), none, none] [] (pmO (pmX h xi xl xc XA XB) W Hp Nx al) (0, 0) _
  refine r_aload_0 d_X9_weighedDiffer_0 ?_
  refine r_get d_X9_weighedDiffer_1 s9_odds rfl rfl ?_
  refine r_aload_0 d_X9_weighedDiffer_4 ?_
  refine r_get d_X9_weighedDiffer_5 s9_parts rfl rfl ?_
  refine r_V1v d_X9_weighedDiffer_8 (c_X4_partsInto17 (f := XA 17) hal hw rfl) rfl rfl rfl ⟨rfl, rfl⟩ (Nat.le_of_ble_eq_true rfl) ?_
  rw [pmO_up (by decide), pmX_17]
  refine r_push (v := nI 0) d_X9_weighedDiffer_11 ?_
  refine r_istore_1 d_X9_weighedDiffer_12 (Nat.le_of_ble_eq_true rfl) (fun w hw => by cases hw <;> rfl) ?_
  refine r_push (v := nI 0) d_X9_weighedDiffer_13 ?_
  refine r_istore_2 d_X9_weighedDiffer_14 (Nat.le_of_ble_eq_true rfl) (fun w hw => by cases hw <;> rfl) ?_
  refine lp_X9_weighedDiffer (XA := va_up XA 17 (pm_fc (fun j => nI (1000000 * W j / al)) (XA 17) 31)) (p := fun j => 1000000 * W j / al) (q := q) (fun j hj => pm_fc_in (p := fun j => nI (1000000 * W j / al)) (f := XA 17) hj) hq (fun j hj => Nat.div_le_of_le_mul (by rw [Nat.mul_comm]; exact Nat.mul_le_mul_right _ (hw j hj))) hqs ?_ 31 0 (by omega)
  refine r_iload_1 d_X9_weighedDiffer_46 ?_
  refine r_ireturn d_X9_weighedDiffer_47 ⟨_, rfl, rfl⟩ ?_
  exact ⟨rfl, rfl⟩
