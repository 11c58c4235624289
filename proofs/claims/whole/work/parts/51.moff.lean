/-! what stood in the rows before does not matter -/
def sp_ag (n : Nat) (f g : Nat → Nat) : Prop := ∀ j, j < n → f j = g j
theorem sp_ag_up {n : Nat} {f g : Nat → Nat} {t e : Nat} (h : sp_ag n f g) : sp_ag n (va_up f t (f t + e)) (va_up g t (g t + e)) := fun j hj => by
  simp only [va_up]
  by_cases z : j = t
  · rw [if_pos z, if_pos z, ← z, h j hj]
  · rw [if_neg z, if_neg z, h j hj]
theorem sp_sh_cg {lo hi : Nat} {f g : Nat → Nat} (h : sp_ag 61 f g) : ∀ n, n ≤ 61 → sp_sh lo hi f n = sp_sh lo hi g n
  | 0, _ => rfl
  | n + 1, hn => by
    show (if 2 ≤ n ∧ 0 < f n then sp_sh lo hi f n * sp_places lo hi n else sp_sh lo hi f n) = if 2 ≤ n ∧ 0 < g n then sp_sh lo hi g n * sp_places lo hi n else sp_sh lo hi g n
    rw [sp_sh_cg h n (by omega), h n (by omega)]
theorem sp_pl_cg {k f lo n e : Nat} {g g' : Nat → Nat} (h : sp_ag 61 g g') : ∀ c, sp_ag 61 (sp_pl k f lo n e g c) (sp_pl k f lo n e g' c)
  | 0 => h
  | c + 1 => sp_ag_up (sp_pl_cg h c)
theorem sp_ph_cg {k f lo hi n w : Nat} {g g' : Nat → Nat} (h : sp_ag 61 g g') : sp_ag 61 (sp_ph k f lo hi n w g) (sp_ph k f lo hi n w g') := by
  unfold sp_ph
  split
  · exact sp_ag_up h
  · exact sp_pl_cg h _
theorem sp_pp_cg {k f lo hi sh : Nat} {Hp Hp' g g' : Nat → Nat} (hH : sp_ag 61 Hp Hp') (h : sp_ag 61 g g') : ∀ i, i ≤ 61 → sp_ag 61 (sp_pp k f lo hi sh Hp g i) (sp_pp k f lo hi sh Hp' g' i)
  | 0, _ => h
  | i + 1, hid => by
    have ih := sp_pp_cg (k := k) (f := f) (lo := lo) (hi := hi) (sh := sh) hH h i (by omega)
    show sp_ag 61 (if 0 < Hp i then sp_ph k f lo hi i (Hp i * sh) (sp_pp k f lo hi sh Hp g i) else sp_pp k f lo hi sh Hp g i) (if 0 < Hp' i then sp_ph k f lo hi i (Hp' i * sh) (sp_pp k f lo hi sh Hp' g' i) else sp_pp k f lo hi sh Hp' g' i)
    rw [hH i (by omega)]
    split
    · exact sp_ph_cg ih
    · exact ih
theorem sp_R_cg {k f lo hi : Nat} {t t' : sp_T3} (h : sp_ag 61 t.1 t'.1) (h2 : t.2.2 = t'.2.2) : sp_ag 61 (sp_R k f lo hi t).1 (sp_R k f lo hi t').1 ∧ (sp_R k f lo hi t).2.2 = (sp_R k f lo hi t').2.2 := by
  have e := sp_sh_cg (lo := lo) (hi := hi) h 61 (by omega)
  refine ⟨fun j hj => ?_, ?_⟩
  · show va_cpy (sp_pp k f lo hi (sp_sh lo hi t.1 61) t.1 (pm_fl 0 t.2.1 61) 61) t.1 0 0 61 j = va_cpy (sp_pp k f lo hi (sp_sh lo hi t'.1 61) t'.1 (pm_fl 0 t'.2.1 61) 61) t'.1 0 0 61 j
    simp only [va_cpy]
    rw [if_pos (by omega), if_pos (by omega), e]
    exact sp_pp_cg h (fun j hj => by simp only [pm_fl, if_pos hj]) 61 (by omega) _ (by omega)
  · show t.2.2 * sp_sh lo hi t.1 61 = t'.2.2 * sp_sh lo hi t'.1 61
    rw [h2, e]
theorem sp_S3_cg {k f lo hi m : Nat} {Hp Nx Hp' Nx' : Nat → Nat} : ∀ r, sp_ag 61 (sp_S3 k f lo hi m Hp Nx r).1 (sp_S3 k f lo hi m Hp' Nx' r).1 ∧ (sp_S3 k f lo hi m Hp Nx r).2.2 = (sp_S3 k f lo hi m Hp' Nx' r).2.2
  | 0 => ⟨fun j hj => by
      show va_up (pm_fl 0 Hp 61) m 1 j = va_up (pm_fl 0 Hp' 61) m 1 j
      simp only [va_up, pm_fl, if_pos hj], rfl⟩
  | r + 1 => sp_R_cg (sp_S3_cg r).1 (sp_S3_cg r).2
theorem sp_ww_cg {k : Nat} {Hp Hp' g g' : Nat → Nat} (hH : sp_ag 61 Hp Hp') (h : sp_ag 31 g g') : ∀ i, i ≤ 61 → sp_ag 31 (sp_ww k Hp g i) (sp_ww k Hp' g' i)
  | 0, _ => h
  | i + 1, hid => by
    show sp_ag 31 (va_up (sp_ww k Hp g i) (i / k) (sp_ww k Hp g i (i / k) + Hp i)) (va_up (sp_ww k Hp' g' i) (i / k) (sp_ww k Hp' g' i (i / k) + Hp' i))
    rw [hH i (by omega)]
    exact sp_ag_up (sp_ww_cg hH h i (by omega))
theorem sp_Wt_cg {kd n k f lo hi : Nat} {w0 Hp Nx w0' Hp' Nx' : Nat → Nat} : sp_ag 31 (sp_Wt kd n k f lo hi w0 Hp Nx).1 (sp_Wt kd n k f lo hi w0' Hp' Nx').1 ∧ (sp_Wt kd n k f lo hi w0 Hp Nx).2 = (sp_Wt kd n k f lo hi w0' Hp' Nx').2 := by
  unfold sp_Wt
  have hz : sp_ag 31 (pm_fl 0 w0 31) (pm_fl 0 w0' 31) := fun j hj => by simp only [pm_fl, if_pos hj]
  split
  · refine ⟨fun j hj => ?_, rfl⟩
    simp only [va_up]; rw [hz j hj]
  · split
    · refine ⟨fun j hj => ?_, rfl⟩
      simp only [va_up]; rw [hz j hj]
    · exact ⟨sp_ww_cg (sp_S3_cg 3).1 hz 61 (by omega), (sp_S3_cg 3).2⟩
/-- the odds of a caster -/
def sp_Wc (q : sp_Cs) : (Nat → Nat) × Nat := sp_Wt q.1 q.2.1 q.2.2.1 q.2.2.2.1 q.2.2.2.2.1 q.2.2.2.2.2 (fun _ => 0) (fun _ => 0) (fun _ => 0)
/-- how much two rows of parts differ -/
def sp_ad (p q : Nat → Nat) : Nat → Nat
  | 0 => 0
  | n + 1 => sp_ad p q n + (p n - q n + (q n - p n))
theorem sp_ad_cg {p p' q q' : Nat → Nat} : ∀ {n : Nat}, sp_ag n p p' → sp_ag n q q' → sp_ad p q n = sp_ad p' q' n
  | 0, _, _ => rfl
  | n + 1, h1, h2 => by
    show sp_ad p q n + (p n - q n + (q n - p n)) = sp_ad p' q' n + (p' n - q' n + (q' n - p' n))
    rw [sp_ad_cg (fun j hj => h1 j (by omega)) (fun j hj => h2 j (by omega)), h1 n (by omega), h2 n (by omega)]
theorem sp_ad_cm {p q : Nat → Nat} : ∀ {n : Nat}, sp_ad p q n = sp_ad q p n
  | 0 => rfl
  | n + 1 => by
    show sp_ad p q n + (p n - q n + (q n - p n)) = sp_ad q p n + (q n - p n + (p n - q n))
    rw [sp_ad_cm (n := n)]; omega
theorem sp_ad_le {p q : Nat → Nat} : ∀ {n : Nat}, sp_ad p q n ≤ sp_sum p n + sp_sum q n
  | 0 => Nat.le_refl _
  | n + 1 => by
    have := sp_ad_le (p := p) (q := q) (n := n)
    show sp_ad p q n + (p n - q n + (q n - p n)) ≤ sp_sum p n + p n + (sp_sum q n + q n)
    omega
theorem sp_dv (a b D : Nat) : a / D + b / D ≤ (a + b) / D := by
  rcases Nat.eq_zero_or_pos D with e | e
  · subst e; simp
  · rw [Nat.le_div_iff_mul_le e, Nat.add_mul]
    exact Nat.add_le_add (Nat.div_mul_le_self _ _) (Nat.div_mul_le_self _ _)
theorem sp_fl_sum {W : Nat → Nat} {D : Nat} : ∀ (n : Nat), sp_sum (fun v => 1000000 * W v / D) n ≤ 1000000 * sp_sum W n / D
  | 0 => Nat.zero_le _
  | n + 1 => by
    have ih := sp_fl_sum (W := W) (D := D) n
    show sp_sum (fun v => 1000000 * W v / D) n + 1000000 * W n / D ≤ 1000000 * (sp_sum W n + W n) / D
    rw [Nat.mul_add]
    exact Nat.le_trans (Nat.add_le_add_right ih _) (sp_dv _ _ _)
theorem sp_fl_all {W : Nat → Nat} {D n : Nat} (hD : 0 < D) (h : sp_sum W n = D) : sp_sum (fun v => 1000000 * W v / D) n ≤ 1000000 := by
  have := sp_fl_sum (W := W) (D := D) n
  rw [h, Nat.mul_div_cancel _ hD] at this
  exact this
/-- the first of the least -/
def sp_nr (off : Nat → Nat) : Nat → Nat × Nat
  | 0 => (0, off 0)
  | c + 1 => if off (c + 1) < (sp_nr off c).2 then (c + 1, off (c + 1)) else sp_nr off c

theorem m_ab1 {s p q : Nat} (h : q ≤ p) : nI s + (nI p - nI q) = nI (s + (p - q + (q - p))) := by
  rw [pk_sub h, nI_add, show q - p = 0 by omega, Nat.add_zero]
theorem m_ab2 {s p q : Nat} (h : p ≤ q) : nI s + -(nI p - nI q) = nI (s + (p - q + (q - p))) := by
  rw [Int32.neg_sub, pk_sub h, nI_add, show p - q = 0 by omega, Nat.zero_add]
theorem m_abd {p q : Nat} (hp : p < 2 ^ 30) (hq : q < 2 ^ 30) : 0 ≤ nI p - nI q ↔ q ≤ p := by
  rw [Int32.le_iff_toInt_le, pk_sub_toInt hp hq]
  have : (0 : Int32).toInt = 0 := rfl
  omega
theorem sp_ptw_all {q : sp_Cs} (h : sp_kk q.1 q.2.1 q.2.2.1 q.2.2.2.1 q.2.2.2.2.1 q.2.2.2.2.2) : sp_sum (sp_ptw (sp_Wc q)) 31 ≤ 1000000 := by
  obtain ⟨w1, w2, w3⟩ := sp_Wt_ok (w0 := fun _ => 0) (Hp := fun _ => 0) (Nx := fun _ => 0) h
  exact sp_fl_all w1 w3
/-- what was counted in a row: the times of each line -/
def m_tm (mi : Nat → Int32) (A : Nat → Nat → Int32) (cv : Nat → Nat) (ct : Nat) : Prop := mi 3 = nI ct ∧ 0 < ct ∧ ct ≤ 64 ∧ sp_sum cv 31 = ct ∧ ∀ j, j < 31 → A 65 j = nI (cv j)
def sp_rp (cv : Nat → Nat) (ct : Nat) (v : Nat) : Nat := 1000000 * cv v / ct
def sp_off (cv : Nat → Nat) (ct : Nat) (q : sp_Cs) : Nat := sp_ad (sp_ptw (sp_Wc q)) (sp_rp cv ct) 31
theorem sp_off_le {cv : Nat → Nat} {ct : Nat} {q : sp_Cs} (h : sp_kk q.1 q.2.1 q.2.2.1 q.2.2.2.1 q.2.2.2.2.1 q.2.2.2.2.2) (h0 : 0 < ct) (hs : sp_sum cv 31 = ct) : sp_off cv ct q ≤ 2000000 := by
  have h1 := sp_ad_le (p := sp_ptw (sp_Wc q)) (q := sp_rp cv ct) (n := 31)
  have h2 := sp_ptw_all h
  have h3 : sp_sum (sp_rp cv ct) 31 ≤ 1000000 := sp_fl_all h0 hs
  unfold sp_off
  omega
theorem m_Cs_kk {A : Nat → Nat → Int32} {c : Nat} {q : sp_Cs} (h : m_Cs A c q) : sp_kk q.1 q.2.1 q.2.2.1 q.2.2.2.1 q.2.2.2.2.1 q.2.2.2.2.2 := m_cas_kk h
set_option maxRecDepth 10000 in
set_option maxHeartbeats 4000000 in
theorem lp_X10_offOf {h : pm_H} {mi : Nat → Int32} {ml : Nat → Int64} {A : Nat → Nat → Int32} {B : Nat → Nat → Int64} {c ct : Nat} {p cv : Nat → Nat} (hp : ∀ j, j < 31 → A 66 j = nI (p j)) (hps : sp_sum p 31 ≤ 1000000) (ht : m_tm mi A cv ct) {F : Option Value → pm_H → Prop} {b9 : Nat × Nat} (K : ∀ o4, pm_V e_X10_offOf 60 [some (.ref 44), some (.int (nI c)), some (.int (nI (sp_ad p (sp_rp cv ct) 31))), some (.int (nI 31)), o4] [] (pmM h mi ml A B) b9 F) : ∀ (d i : Nat) (o4 : Option Value), i + d = 31 → pm_V e_X10_offOf 9 [some (.ref 44), some (.int (nI c)), some (.int (nI (sp_ad p (sp_rp cv ct) i))), some (.int (nI i)), o4] [] (pmM h mi ml A B) b9 F := by
  obtain ⟨t1, t2, t3, t4, t5⟩ := ht
  intro d
  induction d with
  | zero =>
    intro i o4 hid
    obtain rfl : i = 31 := by omega
    refine r_iload_3 d_X10_offOf_9 ?_
    refine r_push (v := nI 31) d_X10_offOf_10 ?_
    refine r_icmp_ge d_X10_offOf_12 (fun c12 => ?_) (fun c12 => absurd (by decide) c12)
    clear c12
    exact K _
  | succ d ih =>
    intro i o4 hid
    have p1 := sp_sum_ge (f := p) (k := i) (n := 31) (by omega)
    have c1 := sp_sum_ge (f := cv) (k := i) (n := 31) (by omega)
    have q1 : sp_rp cv ct i ≤ 1000000 := Nat.div_le_of_le_mul (by rw [Nat.mul_comm]; exact Nat.mul_le_mul_right _ (by omega))
    have sg := m_abd (p := p i) (q := sp_rp cv ct i) (by omega) (by omega)
    have K1 := fun o => ih (i + 1) o (by omega)
    rw [show sp_ad p (sp_rp cv ct) (i + 1) = sp_ad p (sp_rp cv ct) i + (p i - sp_rp cv ct i + (sp_rp cv ct i - p i)) from rfl] at K1
    generalize sp_ad p (sp_rp cv ct) i = s at K1 ⊢
    refine r_iload_3 d_X10_offOf_9 ?_
    refine r_push (v := nI 31) d_X10_offOf_10 ?_
    refine r_icmp_ge d_X10_offOf_12 (fun c12 => ?_) (fun c12 => ?_)
    · -- taken at 12
      have c12 : 31 ≤ i := (nI_leI (a := 31) (b := i) (by omega) (by omega)).mp c12
      exfalso; omega
    · -- not taken at 12
      have c12 : ¬ 31 ≤ i := fun zz9 => c12 ((nI_leI (a := 31) (b := i) (by omega) (by omega)).mpr zz9)
      refine r_aload_0 d_X10_offOf_15 ?_
      refine r_get d_X10_offOf_16 s10_shares rfl rfl ?_
      refine r_iload_3 d_X10_offOf_19 ?_
      refine r_iald d_X10_offOf_20 rfl (pm_ixN (by omega) (by omega)) ?_
      rw [hp i (by omega)]
      refine r_push (v := nI 1000000) d_X10_offOf_21 ?_
      refine r_aload_0 d_X10_offOf_23 ?_
      refine r_get d_X10_offOf_24 s10_times rfl rfl ?_
      refine r_iload_3 d_X10_offOf_27 ?_
      refine r_iald d_X10_offOf_28 rfl (pm_ixN (by omega) (by omega)) ?_
      rw [t5 i (by omega)]
      refine r_imul d_X10_offOf_29 ?_
      rw [pk_mul]
      refine r_aload_0 d_X10_offOf_30 ?_
      refine r_get d_X10_offOf_31 s10_counted rfl rfl ?_
      rw [t1]
      refine r_idiv d_X10_offOf_34 (nI_ne0 (n := ct) (by omega) (by omega)) ?_
      rw [pk_div (a := (1000000 * (cv i))) (d := ct) (by omega) (by omega) (by omega)]
      refine r_isub d_X10_offOf_35 ?_
      rw [show 1000000 * cv i / ct = sp_rp cv ct i from rfl]
      refine r_istore_4 d_X10_offOf_36 (Nat.le_of_ble_eq_true rfl) (fun w hw => by cases hw <;> rfl) ?_
      refine r_iload_2 d_X10_offOf_38 ?_
      refine r_iload_4 d_X10_offOf_39 ?_
      refine r_if_ge d_X10_offOf_41 (fun c41 => ?_) (fun c41 => ?_)
      · -- taken at 41
        refine r_iload_4 d_X10_offOf_50 ?_
        refine r_iadd d_X10_offOf_52 ?_
        first | rw [m_ab1 (sg.mp c41)] | rw [m_ab2 (Nat.le_of_lt (Nat.lt_of_not_le (fun z => c41 (sg.mpr z))))]
        refine r_istore_2 d_X10_offOf_53 (Nat.le_of_ble_eq_true rfl) (fun w hw => by cases hw <;> rfl) ?_
        refine r_iinc_3 d_X10_offOf_54 (Nat.le_of_ble_eq_true rfl) (fun w hw => by cases hw <;> rfl) ?_
        rw [nI_1]
        refine r_goto d_X10_offOf_57 ?_
        exact K1 _
      · -- not taken at 41
        refine r_iload_4 d_X10_offOf_44 ?_
        refine r_ineg d_X10_offOf_46 ?_
        refine r_goto d_X10_offOf_47 ?_
        refine r_iadd d_X10_offOf_52 ?_
        first | rw [m_ab1 (sg.mp c41)] | rw [m_ab2 (Nat.le_of_lt (Nat.lt_of_not_le (fun z => c41 (sg.mpr z))))]
        refine r_istore_2 d_X10_offOf_53 (Nat.le_of_ble_eq_true rfl) (fun w hw => by cases hw <;> rfl) ?_
        refine r_iinc_3 d_X10_offOf_54 (Nat.le_of_ble_eq_true rfl) (fun w hw => by cases hw <;> rfl) ?_
        rw [nI_1]
        refine r_goto d_X10_offOf_57 ?_
        exact K1 _
set_option maxRecDepth 10000 in
set_option maxHeartbeats 4000000 in
theorem c_X10_offOf {h : pm_H} {mi : Nat → Int32} {ml : Nat → Int64} {A : Nat → Nat → Int32} {B : Nat → Nat → Int64} {c ct : Nat} {q : sp_Cs} {cv : Nat → Nat} (hc : c < 10) (hs : m_Cs A c q) (ht : m_tm mi A cv ct) : pm_Cl e_X10_offOf [.ref 44, .int (nI c)] (pmM h mi ml A B) (fun v9 h1 => v9 = some (.int (nI (sp_off cv ct q))) ∧ ∃ mx f B1, h1 = pmM h mi mx (va_up A 66 f) B1 ∧ m_ml ml mx) := by
  refine pm_enter rfl (Nat.le_of_ble_eq_true rfl) ?_
  show pm_V e_X10_offOf 0 [some (.ref 44), some (.int (nI c)), none, none, none] [] (pmM h mi ml A B) (0, 0) _
  refine r_aload_0 d_X10_offOf_0 ?_
  refine r_iload_1 d_X10_offOf_1 ?_
  refine r_V1p d_X10_offOf_2 (c_X10_setShares (w0 := fun _ => 0) (Hp := fun _ => 0) (Nx := fun _ => 0) hc hs) rfl rfl rfl ⟨rfl, rfl⟩ (Nat.le_of_ble_eq_true rfl) ?_
  rintro v9 h9 ⟨rfl, mx, B1, rfl, hmm⟩
  show pm_V _ _ _ [] _ _ _
  refine r_push (v := nI 0) d_X10_offOf_5 ?_
  refine r_istore_2 d_X10_offOf_6 (Nat.le_of_ble_eq_true rfl) (fun w hw => by cases hw <;> rfl) ?_
  refine r_push (v := nI 0) d_X10_offOf_7 ?_
  refine r_istore_3 d_X10_offOf_8 (Nat.le_of_ble_eq_true rfl) (fun w hw => by cases hw <;> rfl) ?_
  refine lp_X10_offOf (A := va_up A 66 (pm_fc (fun j => nI (sp_ptw (sp_Wc q) j)) (A 66) 31)) (p := sp_ptw (sp_Wc q)) (cv := cv) (ct := ct) (fun j hj => pm_fc_in (p := fun j => nI (sp_ptw (sp_Wc q) j)) (f := A 66) hj) (sp_ptw_all (m_Cs_kk hs)) ht (fun o4 => ?_) 31 0 _ (by omega)
  refine r_iload_2 d_X10_offOf_60 ?_
  refine r_ireturn d_X10_offOf_61 ⟨_, rfl, rfl⟩ ?_
  exact ⟨rfl, mx, _, B1, rfl, hmm⟩
theorem sp_cv_sum (v : Nat → Int32) : ∀ z, sp_sum (fun j => sp_cv v j z) 31 = sp_cn v z
  | 0 => sp_sum_z (fun _ _ => rfl)
  | z + 1 => by
    have ih := sp_cv_sum v z
    show sp_sum (fun j => sp_cv v j z + (if v z = nI j then 1 else 0)) 31 = sp_cn v z + pm_bl (sp_vb v z)
    by_cases h : sp_vb v z = true
    · have h1 := of_decide_eq_true h
      obtain ⟨y, hy, e⟩ := pm_rng (x := v z) (n := 31) (Int32.not_lt.mpr h1.1) (Int32.not_le.mpr h1.2) (by omega)
      rw [h, e, sp_sum_cg (g := va_up (fun j => sp_cv v j z) y (sp_cv v y z + 1)) (fun j hj => ?_), sp_sum_add (f := fun j => sp_cv v j z) hy, ih]
      · rfl
      · simp only [va_up]
        by_cases e2 : j = y
        · rw [if_pos e2, e2, if_pos rfl]
        · rw [if_neg e2, if_neg (fun q => e2 ((nI_eq (by omega) (by omega)).mp q).symm), Nat.add_zero]
    · have h0 : sp_vb v z = false := by simpa using h
      rw [h0, sp_sum_cg (g := fun j => sp_cv v j z) (fun j hj => ?_), ih]
      · rfl
      · rw [if_neg (fun q => h (decide_eq_true ⟨?_, ?_⟩)), Nat.add_zero]
        · rw [q]; exact (nI_leI (a := 0) (b := j) (by omega) (by omega)).mpr (Nat.zero_le _)
        · rw [q]; exact (nI_ltI (a := j) (b := 31) (by omega) (by omega)).mpr hj

theorem m_tm_of {mi : Nat → Int32} {A : Nat → Nat → Int32} {r z : Nat} (hz64 : z ≤ 64) (h0 : 0 < (sp_cn (fun q => A 63 (64 * r + q)) z)) : m_tm (upd mi 3 (nI (sp_cn (fun q => A 63 (64 * r + q)) z))) (va_up A 65 (pm_fc (fun j => nI (sp_cv (fun q => A 63 (64 * r + q)) j z)) (A 65) 31)) (fun j => sp_cv (fun q => A 63 (64 * r + q)) j z) (sp_cn (fun q => A 63 (64 * r + q)) z) := by
  refine ⟨rfl, h0, Nat.le_trans (sp_cn_le _ _) hz64, sp_cv_sum _ _, fun j hj => pm_fc_in (p := fun j => nI (sp_cv (fun q => A 63 (64 * r + q)) j z)) (f := A 65) hj⟩
set_option maxRecDepth 10000 in
set_option maxHeartbeats 4000000 in
theorem c_X10_off_none {h : pm_H} {mi : Nat → Int32} {ml : Nat → Int64} {A : Nat → Nat → Int32} {B : Nat → Nat → Int64} {r c : Int32} {cn : Nat} (hcn : mi 1 = nI cn) (hn10 : cn ≤ 10) (hci : (pm_ci c cn).isSome = false) : pm_Cv e_X10_off [.ref 44, .int r, .int c] (pmM h mi ml A B) (.int (-1)) (pmM h mi ml A B) := by
  refine pm_enter rfl (Nat.le_of_ble_eq_true rfl) ?_
  show pm_V e_X10_off 0 [some (.ref 44), some (.int r), some (.int c), none] [] (pmM h mi ml A B) (0, 0) _
  refine r_aload_0 d_X10_off_0 ?_
  refine r_iload_2 d_X10_off_1 ?_
  refine r_V1 d_X10_off_2 (c_X10_isCaster hcn hn10) rfl rfl rfl ⟨rfl, rfl⟩ (Nat.le_of_ble_eq_true rfl) ?_
  rw [hci]
  show pm_V _ _ _ (.int (nI 0) :: _) _ _ _
  refine r_if_ne d_X10_off_5 (fun c5 => absurd (by decide) c5) (fun c5 => ?_)
  clear c5
  refine r_push d_X10_off_8 ?_
  refine r_ireturn d_X10_off_9 ⟨_, rfl, rfl⟩ ?_
  exact ⟨rfl, rfl⟩
set_option maxRecDepth 10000 in
set_option maxHeartbeats 4000000 in
theorem c_X10_off_bad {h : pm_H} {mi : Nat → Int32} {ml : Nat → Int64} {A : Nat → Nat → Int32} {B : Nat → Nat → Int64} {r c : Int32} {cn : Nat} (hcn : mi 1 = nI cn) (hn10 : cn ≤ 10) (hci : (pm_ci c cn).isSome = true) (hr : sp_in r 0 3 = false) : pm_Cv e_X10_off [.ref 44, .int r, .int c] (pmM h mi ml A B) (.int (-1)) (pmM h mi ml A B) := by
  refine pm_enter rfl (Nat.le_of_ble_eq_true rfl) ?_
  show pm_V e_X10_off 0 [some (.ref 44), some (.int r), some (.int c), none] [] (pmM h mi ml A B) (0, 0) _
  refine r_aload_0 d_X10_off_0 ?_
  refine r_iload_2 d_X10_off_1 ?_
  refine r_V1 d_X10_off_2 (c_X10_isCaster hcn hn10) rfl rfl rfl ⟨rfl, rfl⟩ (Nat.le_of_ble_eq_true rfl) ?_
  rw [hci]
  show pm_V _ _ _ (.int (nI 1) :: _) _ _ _
  refine r_if_ne d_X10_off_5 (fun c5 => ?_) (fun c5 => absurd c5 (by decide))
  clear c5
  refine r_aload_0 d_X10_off_10 ?_
  refine r_iload_1 d_X10_off_11 ?_
  refine r_V1 d_X10_off_12 (c_X10_looked_bad hr) rfl rfl rfl ⟨rfl, rfl⟩ (Nat.le_of_ble_eq_true rfl) ?_
  refine r_istore_3 d_X10_off_15 (Nat.le_of_ble_eq_true rfl) (fun w hw => by cases hw <;> rfl) ?_
  refine r_iload_3 d_X10_off_16 ?_
  refine r_if_ge d_X10_off_17 (fun c17 => ?_) (fun c17 => ?_)
  · -- taken at 17
    exact absurd c17 (by decide)
  · -- not taken at 17
    refine r_iload_3 d_X10_off_20 ?_
    refine r_ireturn d_X10_off_21 ⟨_, rfl, rfl⟩ ?_
    exact ⟨rfl, rfl⟩
set_option maxRecDepth 10000 in
set_option maxHeartbeats 4000000 in
theorem c_X10_off_no {h : pm_H} {mi : Nat → Int32} {ml : Nat → Int64} {A : Nat → Nat → Int32} {B : Nat → Nat → Int64} {r : Nat} {c : Int32} {cn : Nat} (hcn : mi 1 = nI cn) (hn10 : cn ≤ 10) (hci : (pm_ci c cn).isSome = true) (hr : r < 4) (hz : A 62 r = -9) : pm_Cv e_X10_off [.ref 44, .int (nI r), .int c] (pmM h mi ml A B) (.int (-3)) (m_meet h mi ml A B 1) := by
  refine pm_enter rfl (Nat.le_of_ble_eq_true rfl) ?_
  show pm_V e_X10_off 0 [some (.ref 44), some (.int (nI r)), some (.int c), none] [] (pmM h mi ml A B) (0, 0) _
  refine r_aload_0 d_X10_off_0 ?_
  refine r_iload_2 d_X10_off_1 ?_
  refine r_V1 d_X10_off_2 (c_X10_isCaster hcn hn10) rfl rfl rfl ⟨rfl, rfl⟩ (Nat.le_of_ble_eq_true rfl) ?_
  rw [hci]
  show pm_V _ _ _ (.int (nI 1) :: _) _ _ _
  refine r_if_ne d_X10_off_5 (fun c5 => ?_) (fun c5 => absurd c5 (by decide))
  clear c5
  refine r_aload_0 d_X10_off_10 ?_
  refine r_iload_1 d_X10_off_11 ?_
  refine r_V1 d_X10_off_12 (c_X10_looked_none hr hz) rfl rfl rfl ⟨rfl, rfl⟩ (Nat.le_of_ble_eq_true rfl) ?_
  refine r_istore_3 d_X10_off_15 (Nat.le_of_ble_eq_true rfl) (fun w hw => by cases hw <;> rfl) ?_
  refine r_iload_3 d_X10_off_16 ?_
  refine r_if_ge d_X10_off_17 (fun c17 => ?_) (fun c17 => ?_)
  · -- taken at 17
    exact absurd c17 (by decide)
  · -- not taken at 17
    refine r_iload_3 d_X10_off_20 ?_
    refine r_ireturn d_X10_off_21 ⟨_, rfl, rfl⟩ ?_
    exact ⟨rfl, rfl⟩
set_option maxRecDepth 10000 in
set_option maxHeartbeats 4000000 in
theorem c_X10_off_nought {h : pm_H} {mi : Nat → Int32} {ml : Nat → Int64} {A : Nat → Nat → Int32} {B : Nat → Nat → Int64} {r z : Nat} (hr : r < 4) (hz : A 62 r = nI z) (hz64 : z ≤ 64) {c : Int32} {cn : Nat} (hcn : mi 1 = nI cn) (hn10 : cn ≤ 10) (hci : (pm_ci c cn).isSome = true) (hct : decide (0 < (sp_cn (fun q => A 63 (64 * r + q)) z)) = false) : pm_Cv e_X10_off [.ref 44, .int (nI r), .int c] (pmM h mi ml A B) (.int (-3)) (m_meet h (upd mi 3 (nI (sp_cn (fun q => A 63 (64 * r + q)) z))) ml (va_up A 65 (pm_fc (fun j => nI (sp_cv (fun q => A 63 (64 * r + q)) j z)) (A 65) 31)) B 4) := by
  refine pm_enter rfl (Nat.le_of_ble_eq_true rfl) ?_
  show pm_V e_X10_off 0 [some (.ref 44), some (.int (nI r)), some (.int c), none] [] (pmM h mi ml A B) (0, 0) _
  refine r_aload_0 d_X10_off_0 ?_
  refine r_iload_2 d_X10_off_1 ?_
  refine r_V1 d_X10_off_2 (c_X10_isCaster hcn hn10) rfl rfl rfl ⟨rfl, rfl⟩ (Nat.le_of_ble_eq_true rfl) ?_
  rw [hci]
  show pm_V _ _ _ (.int (nI 1) :: _) _ _ _
  refine r_if_ne d_X10_off_5 (fun c5 => ?_) (fun c5 => absurd c5 (by decide))
  clear c5
  refine r_aload_0 d_X10_off_10 ?_
  refine r_iload_1 d_X10_off_11 ?_
  refine r_V1 d_X10_off_12 (c_X10_looked hr hz hz64) rfl rfl rfl ⟨rfl, rfl⟩ (Nat.le_of_ble_eq_true rfl) ?_
  show pm_V _ _ _ (.int (nI 0) :: _) _ _ _
  refine r_istore_3 d_X10_off_15 (Nat.le_of_ble_eq_true rfl) (fun w hw => by cases hw <;> rfl) ?_
  refine r_iload_3 d_X10_off_16 ?_
  refine r_if_ge d_X10_off_17 (fun c17 => ?_) (fun c17 => absurd (by decide) c17)
  clear c17
  refine r_aload_0 d_X10_off_22 ?_
  refine r_iload_1 d_X10_off_23 ?_
  refine r_V1 d_X10_off_24 (c_X10_counts hr hz hz64) rfl rfl rfl ⟨rfl, rfl⟩ (Nat.le_of_ble_eq_true rfl) ?_
  rw [hct]
  show pm_V _ _ _ (.int (nI 0) :: _) _ _ _
  refine r_if_ne d_X10_off_27 (fun c27 => absurd (by decide) c27) (fun c27 => ?_)
  clear c27
  refine r_aload_0 d_X10_off_30 ?_
  refine r_push (v := nI 4) d_X10_off_31 ?_
  refine r_V1 d_X10_off_32 (c_X10_meets (w := 4) (by decide)) rfl rfl rfl ⟨rfl, rfl⟩ (Nat.le_of_ble_eq_true rfl) ?_
  refine r_ireturn d_X10_off_35 ⟨_, rfl, rfl⟩ ?_
  exact ⟨rfl, rfl⟩
set_option maxRecDepth 10000 in
set_option maxHeartbeats 4000000 in
theorem c_X10_off {h : pm_H} {mi : Nat → Int32} {ml : Nat → Int64} {A : Nat → Nat → Int32} {B : Nat → Nat → Int64} {r z : Nat} (hr : r < 4) (hz : A 62 r = nI z) (hz64 : z ≤ 64) {cn c : Nat} {q : sp_Cs} (hcn : mi 1 = nI cn) (hn10 : cn ≤ 10) (hcc : c < cn) (hs : m_Cs A c q) (hct : decide (0 < (sp_cn (fun q => A 63 (64 * r + q)) z)) = true) : pm_Cl e_X10_off [.ref 44, .int (nI r), .int (nI c)] (pmM h mi ml A B) (fun v9 h1 => v9 = some (.int (nI 1)) ∧ ∃ x mx f g B1, h1 = pmM h (upd mi 3 x) (vp_updL mx 0 (lN (sp_off (fun j => sp_cv (fun q => A 63 (64 * r + q)) j z) (sp_cn (fun q => A 63 (64 * r + q)) z) q))) (va_up (va_up A 65 f) 66 g) B1 ∧ m_ml ml mx) := by
  have hol := sp_off_le (cv := (fun j => sp_cv (fun q => A 63 (64 * r + q)) j z)) (ct := (sp_cn (fun q => A 63 (64 * r + q)) z)) (m_Cs_kk hs) (of_decide_eq_true hct) (sp_cv_sum _ _)
  refine pm_enter rfl (Nat.le_of_ble_eq_true rfl) ?_
  show pm_V e_X10_off 0 [some (.ref 44), some (.int (nI r)), some (.int (nI c)), none] [] (pmM h mi ml A B) (0, 0) _
  refine r_aload_0 d_X10_off_0 ?_
  refine r_iload_2 d_X10_off_1 ?_
  refine r_V1 d_X10_off_2 (c_X10_isCaster hcn hn10) rfl rfl rfl ⟨rfl, rfl⟩ (Nat.le_of_ble_eq_true rfl) ?_
  rw [pm_ci_of hcc (by omega)]
  show pm_V _ _ _ (.int (nI 1) :: _) _ _ _
  refine r_if_ne d_X10_off_5 (fun c5 => ?_) (fun c5 => absurd c5 (by decide))
  clear c5
  refine r_aload_0 d_X10_off_10 ?_
  refine r_iload_1 d_X10_off_11 ?_
  refine r_V1 d_X10_off_12 (c_X10_looked hr hz hz64) rfl rfl rfl ⟨rfl, rfl⟩ (Nat.le_of_ble_eq_true rfl) ?_
  show pm_V _ _ _ (.int (nI 0) :: _) _ _ _
  refine r_istore_3 d_X10_off_15 (Nat.le_of_ble_eq_true rfl) (fun w hw => by cases hw <;> rfl) ?_
  refine r_iload_3 d_X10_off_16 ?_
  refine r_if_ge d_X10_off_17 (fun c17 => ?_) (fun c17 => absurd (by decide) c17)
  clear c17
  refine r_aload_0 d_X10_off_22 ?_
  refine r_iload_1 d_X10_off_23 ?_
  refine r_V1 d_X10_off_24 (c_X10_counts hr hz hz64) rfl rfl rfl ⟨rfl, rfl⟩ (Nat.le_of_ble_eq_true rfl) ?_
  rw [hct]
  show pm_V _ _ _ (.int (nI 1) :: _) _ _ _
  refine r_if_ne d_X10_off_27 (fun c27 => ?_) (fun c27 => absurd c27 (by decide))
  clear c27
  refine r_aload_0 d_X10_off_36 ?_
  refine r_aload_0 d_X10_off_37 ?_
  refine r_iload_2 d_X10_off_38 ?_
  refine r_V1p d_X10_off_39 (c_X10_offOf (A := (va_up A 65 (pm_fc (fun j => nI (sp_cv (fun q => A 63 (64 * r + q)) j z)) (A 65) 31))) (cv := (fun j => sp_cv (fun q => A 63 (64 * r + q)) j z)) (ct := (sp_cn (fun q => A 63 (64 * r + q)) z)) (q := q) (by omega) hs (m_tm_of hz64 (of_decide_eq_true hct))) rfl rfl rfl ⟨rfl, rfl⟩ (Nat.le_of_ble_eq_true rfl) ?_
  rintro v9 h9 ⟨rfl, mx, f, B1, rfl, hmm⟩
  show pm_V _ _ _ (.int (nI (sp_off (fun j => sp_cv (fun q => A 63 (64 * r + q)) j z) (sp_cn (fun q => A 63 (64 * r + q)) z) q)) :: _) _ _ _
  refine r_i2l d_X10_off_42 ?_
  rw [nI_l (n := (sp_off (fun j => sp_cv (fun q => A 63 (64 * r + q)) j z) (sp_cn (fun q => A 63 (64 * r + q)) z) q)) (by omega)]
  refine r_put d_X10_off_43 s10_asked rfl (Nat.le_of_ble_eq_true rfl) ⟨rfl, rfl⟩ ?_
  rw [pmM_asked]
  refine r_push (v := nI 1) d_X10_off_46 ?_
  refine r_ireturn d_X10_off_47 ⟨_, rfl, rfl⟩ ?_
  exact ⟨rfl, _, mx, _, f, B1, rfl, hmm⟩
