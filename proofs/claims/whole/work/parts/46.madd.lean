theorem m_add2 {w D a b c d e g p q : Nat} (hD : 0 < D) (hd : d ∣ D) (hc : c * D = e * d) (ha : m_u w D = a) (hb : m_l w D = b) (hg : Nat.gcd d b = g) (hp : a * (d / g) + c * (b / g) = p) (hq : b / g * d = q) : 0 < g ∧ g ≤ D ∧ q ∣ D ∧ 0 < q ∧ p ≤ w + e ∧ p / Nat.gcd q p = m_u (w + e) D ∧ q / Nat.gcd q p = m_l (w + e) D := by
  subst ha hb hg hp hq
  exact m_add hD hd hc
def m_ml (ml ml' : Nat → Int64) : Prop := ∀ q, q ≠ 3 → q ≠ 4 → ml' q = ml q
set_option maxRecDepth 10000 in
set_option maxHeartbeats 4000000 in
theorem c_X10_add {h : pm_H} {mi : Nat → Int32} {ml : Nat → Int64} {A : Nat → Nat → Int32} {B : Nat → Nat → Int64} {w D c d e : Nat} (hD : 0 < D) (hD2 : D < 2 ^ 62) (hd : d ∣ D) (hc : c * D = e * d) (hwe : w + e < 2 ^ 62) : pm_C0 e_X10_add [.ref 44, .long (lN (m_u w D)), .long (lN (m_l w D)), .long (lN c), .long (lN d)] (pmM h mi ml A B) (pmM h mi (vp_updL (vp_updL ml 3 (lN (m_u (w + e) D))) 4 (lN (m_l (w + e) D))) A B) := by
  have hb1 := m_l_pos (w := w) hD
  have hb2 := m_l_le (w := w) (D := D)
  have ha2 := m_u_le (w := w) (D := D)
  have hd1 := Nat.le_of_dvd hD hd
  generalize ha : m_u w D = a at ha2 ⊢
  generalize hb : m_l w D = b at hb1 hb2 ⊢
  obtain ⟨g, hg⟩ : ∃ g, Nat.gcd d b = g := ⟨_, rfl⟩
  obtain ⟨p, hp⟩ : ∃ p, a * (d / g) + c * (b / g) = p := ⟨_, rfl⟩
  obtain ⟨q, hq⟩ : ∃ q, b / g * d = q := ⟨_, rfl⟩
  obtain ⟨m1, m2, m3, m4, m5, m6, m7⟩ := m_add2 (w := w) (e := e) hD hd hc ha hb hg hp hq
  have m8 := Nat.le_of_dvd hD m3
  obtain ⟨G, hG⟩ : ∃ G, Nat.gcd q p = G := ⟨_, rfl⟩
  have hG1 : 0 < G := by rw [← hG]; exact Nat.gcd_pos_of_pos_left _ m4
  have hG2 : G ≤ q := by rw [← hG]; exact Nat.le_of_dvd m4 (Nat.gcd_dvd_left _ _)
  rw [hG] at m6 m7
  rw [← m6, ← m7]
  refine pm_enter rfl (Nat.le_of_ble_eq_true rfl) ?_
  show pm_V e_X10_add 0 [some (.ref 44), some (.long (lN a)), none, some (.long (lN b)), none, some (.long (lN c)), none, some (.long (lN d)), none, none, none, none, none, none, none, none, none] [] (pmM h mi ml A B) (0, 0) _
  refine r_lload_3 d_X10_add_0 ?_
  refine r_lload_7 d_X10_add_1 ?_
  refine r_S2 d_X10_add_3 (c_X10_divisor (x := b) (y := d) (by omega) (by omega)) ⟨rfl, rfl⟩ (Nat.le_of_ble_eq_true rfl) ?_
  rw [hg]
  refine r_lstore_9 d_X10_add_6 (Nat.le_of_ble_eq_true rfl) (fun w hw => by cases hw <;> rfl) ?_
  refine r_lload_1 d_X10_add_8 ?_
  refine r_lload_7 d_X10_add_9 ?_
  refine r_lload_9 d_X10_add_11 ?_
  refine r_ldiv d_X10_add_13 (pm_lne0 (n := g) (by omega) (by omega)) ?_
  rw [pk_lDiv (a := d) (b := g) (by omega) (by omega) (by omega)]
  refine r_lmul d_X10_add_14 ?_
  rw [lN_mul]
  refine r_lload_5 d_X10_add_15 ?_
  refine r_lload_3 d_X10_add_17 ?_
  refine r_lload_9 d_X10_add_18 ?_
  refine r_ldiv d_X10_add_20 (pm_lne0 (n := g) (by omega) (by omega)) ?_
  rw [pk_lDiv (a := b) (b := g) (by omega) (by omega) (by omega)]
  refine r_lmul d_X10_add_21 ?_
  rw [lN_mul]
  refine r_ladd d_X10_add_22 ?_
  rw [lN_add]
  refine r_lstore_11 d_X10_add_23 (Nat.le_of_ble_eq_true rfl) (fun w hw => by cases hw <;> rfl) ?_
  refine r_lload_3 d_X10_add_25 ?_
  refine r_lload_9 d_X10_add_26 ?_
  refine r_ldiv d_X10_add_28 (pm_lne0 (n := g) (by omega) (by omega)) ?_
  rw [pk_lDiv (a := b) (b := g) (by omega) (by omega) (by omega)]
  refine r_lload_7 d_X10_add_29 ?_
  refine r_lmul d_X10_add_31 ?_
  rw [lN_mul]
  refine r_lstore_13 d_X10_add_32 (Nat.le_of_ble_eq_true rfl) (fun w hw => by cases hw <;> rfl) ?_
  rw [hp, hq]
  refine r_lload_11 d_X10_add_34 ?_
  refine r_lload_13 d_X10_add_36 ?_
  refine r_S2 d_X10_add_38 (c_X10_divisor (x := p) (y := q) (by omega) (by omega)) ⟨rfl, rfl⟩ (Nat.le_of_ble_eq_true rfl) ?_
  rw [hG]
  refine r_lstore_15 d_X10_add_41 (Nat.le_of_ble_eq_true rfl) (fun w hw => by cases hw <;> rfl) ?_
  refine r_aload_0 d_X10_add_43 ?_
  refine r_lload_11 d_X10_add_44 ?_
  refine r_lload_15 d_X10_add_46 ?_
  refine r_ldiv d_X10_add_48 (pm_lne0 (n := G) (by omega) (by omega)) ?_
  rw [pk_lDiv (a := p) (b := G) (by omega) (by omega) (by omega)]
  refine r_put d_X10_add_49 s10_sumUp rfl (Nat.le_of_ble_eq_true rfl) ⟨rfl, rfl⟩ ?_
  rw [pmM_sumUp]
  refine r_aload_0 d_X10_add_52 ?_
  refine r_lload_13 d_X10_add_53 ?_
  refine r_lload_15 d_X10_add_55 ?_
  refine r_ldiv d_X10_add_57 (pm_lne0 (n := G) (by omega) (by omega)) ?_
  rw [pk_lDiv (a := q) (b := G) (by omega) (by omega) (by omega)]
  refine r_put d_X10_add_58 s10_sumLow rfl (Nat.le_of_ble_eq_true rfl) ⟨rfl, rfl⟩ ?_
  rw [pmM_sumLow]
  refine r_return d_X10_add_61 rfl ?_
  exact ⟨rfl, rfl⟩
set_option maxRecDepth 10000 in
set_option maxHeartbeats 4000000 in
theorem c_X10_tell {h : pm_H} {mi : Nat → Int32} {ml : Nat → Int64} {A : Nat → Nat → Int32} {B : Nat → Nat → Int64} {u l : Nat} (hl : 0 < l) (hl2 : l < 2 ^ 62) (hu : u < 2 ^ 62) : pm_Cv e_X10_tell [.ref 44, .long (lN u), .long (lN l)] (pmM h mi ml A B) (.int (nI 1)) (pmM h mi (vp_updL (vp_updL ml 1 (lN (u / Nat.gcd l u))) 2 (lN (l / Nat.gcd l u))) A B) := by
  obtain ⟨G, hG⟩ : ∃ G, Nat.gcd l u = G := ⟨_, rfl⟩
  have hG1 : 0 < G := by rw [← hG]; exact Nat.gcd_pos_of_pos_left _ hl
  have hG2 : G ≤ l := by rw [← hG]; exact Nat.le_of_dvd hl (Nat.gcd_dvd_left _ _)
  rw [hG]
  refine pm_enter rfl (Nat.le_of_ble_eq_true rfl) ?_
  show pm_V e_X10_tell 0 [some (.ref 44), some (.long (lN u)), none, some (.long (lN l)), none, none, none] [] (pmM h mi ml A B) (0, 0) _
  refine r_lload_1 d_X10_tell_0 ?_
  refine r_lload_3 d_X10_tell_1 ?_
  refine r_S2 d_X10_tell_2 (c_X10_divisor (x := u) (y := l) (by omega) (by omega)) ⟨rfl, rfl⟩ (Nat.le_of_ble_eq_true rfl) ?_
  rw [hG]
  refine r_lstore_5 d_X10_tell_5 (Nat.le_of_ble_eq_true rfl) (fun w hw => by cases hw <;> rfl) ?_
  refine r_aload_0 d_X10_tell_7 ?_
  refine r_lload_1 d_X10_tell_8 ?_
  refine r_lload_5 d_X10_tell_9 ?_
  refine r_ldiv d_X10_tell_11 (pm_lne0 (n := G) (by omega) (by omega)) ?_
  rw [pk_lDiv (a := u) (b := G) (by omega) (by omega) (by omega)]
  refine r_put d_X10_tell_12 s10_upper rfl (Nat.le_of_ble_eq_true rfl) ⟨rfl, rfl⟩ ?_
  rw [pmM_upper]
  refine r_aload_0 d_X10_tell_15 ?_
  refine r_lload_3 d_X10_tell_16 ?_
  refine r_lload_5 d_X10_tell_17 ?_
  refine r_ldiv d_X10_tell_19 (pm_lne0 (n := G) (by omega) (by omega)) ?_
  rw [pk_lDiv (a := l) (b := G) (by omega) (by omega) (by omega)]
  refine r_put d_X10_tell_20 s10_lower rfl (Nat.le_of_ble_eq_true rfl) ⟨rfl, rfl⟩ ?_
  rw [pmM_lower]
  refine r_push (v := nI 1) d_X10_tell_23 ?_
  refine r_ireturn d_X10_tell_24 ⟨_, rfl, rfl⟩ ?_
  exact ⟨rfl, rfl⟩
theorem m_auc {α : Type} (B : Nat → α) (j k : Nat) (x y z : α) (h : j ≠ k) : va_up (va_up (va_up B j x) k y) j z = va_up (va_up B j z) k y := by
  funext q
  simp only [va_up]
  by_cases e : q = j
  · subst e; simp [h]
  · simp [e]
theorem m_au3 {α : Type} (B : Nat → α) (j k : Nat) (x y z : α) : va_up (va_up (va_up B j x) k y) k z = va_up (va_up B j x) k z := m_aua _ _ _ _
theorem pm_lfl_s {α : Type} (v : α) (f : Nat → Int64) (x : Int64) (i : Nat) : vp_updL (pm_fl x f i) i x = pm_fl x f (i + 1) := by
  funext j
  simp only [vp_updL, pm_fl]
  by_cases e : j = i
  · subst e; rw [if_pos rfl, if_pos (show j < j + 1 by omega)]
  · rw [if_neg e]
    by_cases e2 : j < i
    · rw [if_pos e2, if_pos (show j < i + 1 by omega)]
    · rw [if_neg e2, if_neg (show ¬ j < i + 1 by omega)]
set_option maxRecDepth 10000 in
set_option maxHeartbeats 4000000 in
theorem lp_X10_clearOdds {h : pm_H} {mi : Nat → Int32} {ml : Nat → Int64} {A : Nat → Nat → Int32} {B : Nat → Nat → Int64} {F : Option Value → pm_H → Prop} {b : Nat × Nat}  (K : pm_V e_X10_clearOdds 28 [some (.ref 44), some (.int (nI 31))] [] (pmM h mi ml A (va_up (va_up B 56 (pm_fl (lN 0) (B 56) 31)) 57 (pm_fl (lN 1) (B 57) 31))) b F) : ∀ (d i : Nat), i + d = 31 → pm_V e_X10_clearOdds 2 [some (.ref 44), some (.int (nI i))] [] (pmM h mi ml A (va_up (va_up B 56 (pm_fl (lN 0) (B 56) i)) 57 (pm_fl (lN 1) (B 57) i))) b F := by
  intro d
  induction d with
  | zero =>
    intro i hi
    obtain rfl : i = 31 := by omega
    refine r_iload_1 d_X10_clearOdds_2 ?_
    refine r_push (v := nI 31) d_X10_clearOdds_3 ?_
    refine r_icmp_ge d_X10_clearOdds_5 (fun c5 => ?_) (fun c5 => absurd (by decide) c5)
    clear c5
    exact K
  | succ d ih =>
    intro i hi
    refine r_iload_1 d_X10_clearOdds_2 ?_
    refine r_push (v := nI 31) d_X10_clearOdds_3 ?_
    refine r_icmp_ge d_X10_clearOdds_5 (fun c5 => ?_) (fun c5 => ?_)
    · -- taken at 5
      have c5 : 31 ≤ i := (nI_leI (a := 31) (b := i) (by omega) (by omega)).mp c5
      exfalso; omega
    · -- not taken at 5
      have c5 : ¬ 31 ≤ i := fun zz9 => c5 ((nI_leI (a := 31) (b := i) (by omega) (by omega)).mpr zz9)
      refine r_aload_0 d_X10_clearOdds_8 ?_
      refine r_get d_X10_clearOdds_9 s10_oddsUp rfl rfl ?_
      refine r_iload_1 d_X10_clearOdds_12 ?_
      refine r_pushl (v := lN 0) d_X10_clearOdds_13 ?_
      refine r_last d_X10_clearOdds_14 rfl (pm_ixN (by omega) (by omega)) ?_
      rw [pmM_oddsUp, m_auc _ 56 57 _ _ _ (by decide), show va_up (va_up B 56 (pm_fl (lN 0) (B 56) i)) 57 (pm_fl (lN 1) (B 57) i) 56 = (pm_fl (lN 0) (B 56) i) from rfl, pm_lfl_s ()]
      refine r_aload_0 d_X10_clearOdds_15 ?_
      refine r_get d_X10_clearOdds_16 s10_oddsLow rfl rfl ?_
      refine r_iload_1 d_X10_clearOdds_19 ?_
      refine r_pushl (v := lN 1) d_X10_clearOdds_20 ?_
      refine r_last d_X10_clearOdds_21 rfl (pm_ixN (by omega) (by omega)) ?_
      rw [pmM_oddsLow, m_au3, show va_up (va_up B 56 (pm_fl (lN 0) (B 56) (i + 1))) 57 (pm_fl (lN 1) (B 57) i) 57 = (pm_fl (lN 1) (B 57) i) from rfl, pm_lfl_s ()]
      refine r_iinc_1 d_X10_clearOdds_22 (Nat.le_of_ble_eq_true rfl) (fun w hw => by cases hw <;> rfl) ?_
      rw [nI_1]
      refine r_goto d_X10_clearOdds_25 ?_
      exact ih (i + 1) (by omega)
set_option maxRecDepth 10000 in
set_option maxHeartbeats 4000000 in
theorem c_X10_clearOdds {h : pm_H} {mi : Nat → Int32} {ml : Nat → Int64} {A : Nat → Nat → Int32} {B : Nat → Nat → Int64} : pm_C0 e_X10_clearOdds [.ref 44] (pmM h mi ml A B) (pmM h mi ml A (va_up (va_up B 56 (pm_fl (lN 0) (B 56) 31)) 57 (pm_fl (lN 1) (B 57) 31))) := by
  have eh : (pmM h mi ml A (va_up (va_up B 56 (pm_fl (lN 0) (B 56) 0)) 57 (pm_fl (lN 1) (B 57) 0))) = (pmM h mi ml A B) := by
    rw [show (pm_fl (lN 1) (B 57) 0) = va_up B 56 (pm_fl (lN 0) (B 56) 0) 57 from rfl, m_aus, show (pm_fl (lN 0) (B 56) 0) = B 56 from rfl, m_aus]
  refine pm_enter rfl (Nat.le_of_ble_eq_true rfl) ?_
  show pm_V e_X10_clearOdds 0 [some (.ref 44), none] [] (pmM h mi ml A B) (0, 0) _
  refine r_push (v := nI 0) d_X10_clearOdds_0 ?_
  refine r_istore_1 d_X10_clearOdds_1 (Nat.le_of_ble_eq_true rfl) (fun w hw => by cases hw <;> rfl) ?_
  have K := lp_X10_clearOdds (h := h) (mi := mi) (ml := ml) (A := A) (B := B) (b := (0, 0)) (F := fun v9 h1 => v9 = none ∧ h1 = (pmM h mi ml A (va_up (va_up B 56 (pm_fl (lN 0) (B 56) 31)) 57 (pm_fl (lN 1) (B 57) 31)))) (r_return d_X10_clearOdds_28 rfl ⟨rfl, rfl⟩) 31 0 (by omega)
  rw [eh] at K
  exact K
