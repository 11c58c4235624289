theorem pm_sin {v : Nat} {lo hi : Nat} (h1 : lo ≤ v) (h2 : v ≤ hi) (h3 : hi < 2 ^ 31) : sp_in (nI v) (nI lo) (nI hi) = true := sp_in_of (by omega) h3 h1 h2
theorem c_X10_inN {h : pm_H} {v lo hi : Nat} (h1 : lo ≤ v) (h2 : v ≤ hi) (h3 : hi < 2 ^ 31) : pm_Cv e_X10_in [.int (nI v), .int (nI lo), .int (nI hi)] h (.int (nI 1)) h := by
  have e := c_X10_in (h := h) (v := nI v) (lo := nI lo) (hi := nI hi)
  rw [pm_sin h1 h2 h3] at e
  exact e
theorem c_X10_isFigureN {h : pm_H} {v : Nat} (h2 : v < 8) : pm_Cv e_X10_isFigure [.int (nI v)] h (.int (nI 1)) h := by
  have e := c_X10_isFigure (h := h) (v := nI v)
  rw [show sp_in (nI v) 0 7 = true from pm_sin (lo := 0) (hi := 7) (by omega) (by omega) (by decide)] at e
  exact e
theorem c_X10_isRowN {h : pm_H} {v : Nat} (h2 : v < 4) : pm_Cv e_X10_isRow [.int (nI v)] h (.int (nI 1)) h := by
  have e := c_X10_isRow (h := h) (v := nI v)
  rw [show sp_in (nI v) 0 3 = true from pm_sin (lo := 0) (hi := 3) (by omega) (by omega) (by decide)] at e
  exact e
set_option maxRecDepth 10000 in
set_option maxHeartbeats 4000000 in
theorem c_X10_set_bad1 {h : pm_H} {mi : Nat → Int32} {ml : Nat → Int64} {A : Nat → Nat → Int32} {B : Nat → Nat → Int64} {f i v : Int32} (hf : sp_in f 0 7 = false) : pm_Cv e_X10_set [.ref 44, .int f, .int i, .int v] (pmM h mi ml A B) (.int (-1)) (pmM h mi ml A B) := by
  refine pm_enter rfl (Nat.le_of_ble_eq_true rfl) ?_
  show pm_V e_X10_set 0 [some (.ref 44), some (.int f), some (.int i), some (.int v), none] [] (pmM h mi ml A B) (0, 0) _
  refine r_iload_1 d_X10_set_0 ?_
  refine r_S1 d_X10_set_1 c_X10_isFigure ⟨rfl, rfl⟩ (Nat.le_of_ble_eq_true rfl) ?_
  rw [hf]
  show pm_V _ _ _ (.int (nI 0) :: _) _ _ _
  refine r_if_eq d_X10_set_4 (fun c4 => ?_) (fun c4 => absurd (by decide) c4)
  clear c4
  refine r_push d_X10_set_18 ?_
  refine r_ireturn d_X10_set_19 ⟨_, rfl, rfl⟩ ?_
  exact ⟨rfl, rfl⟩
set_option maxRecDepth 10000 in
set_option maxHeartbeats 4000000 in
theorem c_X10_set_bad2 {h : pm_H} {mi : Nat → Int32} {ml : Nat → Int64} {A : Nat → Nat → Int32} {B : Nat → Nat → Int64} {f i v : Int32} (hf : sp_in f 0 7 = true) (hv : sp_in v 6 9 = false) : pm_Cv e_X10_set [.ref 44, .int f, .int i, .int v] (pmM h mi ml A B) (.int (-1)) (pmM h mi ml A B) := by
  refine pm_enter rfl (Nat.le_of_ble_eq_true rfl) ?_
  show pm_V e_X10_set 0 [some (.ref 44), some (.int f), some (.int i), some (.int v), none] [] (pmM h mi ml A B) (0, 0) _
  refine r_iload_1 d_X10_set_0 ?_
  refine r_S1 d_X10_set_1 c_X10_isFigure ⟨rfl, rfl⟩ (Nat.le_of_ble_eq_true rfl) ?_
  rw [hf]
  show pm_V _ _ _ (.int (nI 1) :: _) _ _ _
  refine r_if_eq d_X10_set_4 (fun c4 => absurd c4 (by decide)) (fun c4 => ?_)
  clear c4
  refine r_iload_3 d_X10_set_7 ?_
  refine r_push d_X10_set_8 ?_
  refine r_push d_X10_set_10 ?_
  refine r_S3 d_X10_set_12 c_X10_in ⟨rfl, rfl⟩ (Nat.le_of_ble_eq_true rfl) ?_
  rw [hv]
  show pm_V _ _ _ (.int (nI 0) :: _) _ _ _
  refine r_if_ne d_X10_set_15 (fun c15 => absurd (by decide) c15) (fun c15 => ?_)
  clear c15
  refine r_push d_X10_set_18 ?_
  refine r_ireturn d_X10_set_19 ⟨_, rfl, rfl⟩ ?_
  exact ⟨rfl, rfl⟩
set_option maxRecDepth 10000 in
set_option maxHeartbeats 4000000 in
theorem c_X10_set_far {h : pm_H} {mi : Nat → Int32} {ml : Nat → Int64} {A : Nat → Nat → Int32} {B : Nat → Nat → Int64} {f i v : Int32} (hf : sp_in f 0 7 = true) (hv : sp_in v 6 9 = true) (hx : sp_in i 0 5 = false) : pm_Cv e_X10_set [.ref 44, .int f, .int i, .int v] (pmM h mi ml A B) (.int (-3)) (m_meet h mi ml A B 2) := by
  refine pm_enter rfl (Nat.le_of_ble_eq_true rfl) ?_
  show pm_V e_X10_set 0 [some (.ref 44), some (.int f), some (.int i), some (.int v), none] [] (pmM h mi ml A B) (0, 0) _
  refine r_iload_1 d_X10_set_0 ?_
  refine r_S1 d_X10_set_1 c_X10_isFigure ⟨rfl, rfl⟩ (Nat.le_of_ble_eq_true rfl) ?_
  rw [hf]
  show pm_V _ _ _ (.int (nI 1) :: _) _ _ _
  refine r_if_eq d_X10_set_4 (fun c4 => absurd c4 (by decide)) (fun c4 => ?_)
  clear c4
  refine r_iload_3 d_X10_set_7 ?_
  refine r_push d_X10_set_8 ?_
  refine r_push d_X10_set_10 ?_
  refine r_S3 d_X10_set_12 c_X10_in ⟨rfl, rfl⟩ (Nat.le_of_ble_eq_true rfl) ?_
  rw [hv]
  show pm_V _ _ _ (.int (nI 1) :: _) _ _ _
  refine r_if_ne d_X10_set_15 (fun c15 => ?_) (fun c15 => absurd c15 (by decide))
  clear c15
  refine r_iload_2 d_X10_set_20 ?_
  refine r_push d_X10_set_21 ?_
  refine r_push d_X10_set_22 ?_
  refine r_S3 d_X10_set_23 c_X10_in ⟨rfl, rfl⟩ (Nat.le_of_ble_eq_true rfl) ?_
  rw [hx]
  show pm_V _ _ _ (.int (nI 0) :: _) _ _ _
  refine r_if_ne d_X10_set_26 (fun c26 => absurd (by decide) c26) (fun c26 => ?_)
  clear c26
  refine r_aload_0 d_X10_set_29 ?_
  refine r_push d_X10_set_30 ?_
  refine r_V1 d_X10_set_31 (c_X10_meets (w := 2) (by decide)) rfl rfl rfl ⟨rfl, rfl⟩ (Nat.le_of_ble_eq_true rfl) ?_
  refine r_ireturn d_X10_set_34 ⟨_, rfl, rfl⟩ ?_
  exact ⟨rfl, rfl⟩
set_option maxRecDepth 10000 in
set_option maxHeartbeats 4000000 in
theorem c_X10_set {h : pm_H} {mi : Nat → Int32} {ml : Nat → Int64} {A : Nat → Nat → Int32} {B : Nat → Nat → Int64} {p q w : Nat} (hp : p < 8) (hq : q < 6) (hw : 6 ≤ w ∧ w ≤ 9) : pm_Cv e_X10_set [.ref 44, .int (nI p), .int (nI q), .int (nI w)] (pmM h mi ml A B) (.int (A 58 (6 * p + q))) (pmM h mi ml (va_up A 58 (upd (A 58) (6 * p + q) (nI w))) B) := by
  refine pm_enter rfl (Nat.le_of_ble_eq_true rfl) ?_
  show pm_V e_X10_set 0 [some (.ref 44), some (.int (nI p)), some (.int (nI q)), some (.int (nI w)), none] [] (pmM h mi ml A B) (0, 0) _
  refine r_iload_1 d_X10_set_0 ?_
  refine r_S1 d_X10_set_1 (c_X10_isFigureN (by omega)) ⟨rfl, rfl⟩ (Nat.le_of_ble_eq_true rfl) ?_
  refine r_if_eq d_X10_set_4 (fun c4 => absurd c4 (by decide)) (fun c4 => ?_)
  clear c4
  refine r_iload_3 d_X10_set_7 ?_
  refine r_push (v := nI 6) d_X10_set_8 ?_
  refine r_push (v := nI 9) d_X10_set_10 ?_
  refine r_S3 d_X10_set_12 (c_X10_inN (by omega) (by omega) (by decide)) ⟨rfl, rfl⟩ (Nat.le_of_ble_eq_true rfl) ?_
  refine r_if_ne d_X10_set_15 (fun c15 => ?_) (fun c15 => absurd c15 (by decide))
  clear c15
  refine r_iload_2 d_X10_set_20 ?_
  refine r_push (v := nI 0) d_X10_set_21 ?_
  refine r_push (v := nI 5) d_X10_set_22 ?_
  refine r_S3 d_X10_set_23 (c_X10_inN (by omega) (by omega) (by decide)) ⟨rfl, rfl⟩ (Nat.le_of_ble_eq_true rfl) ?_
  refine r_if_ne d_X10_set_26 (fun c26 => ?_) (fun c26 => absurd c26 (by decide))
  clear c26
  refine r_aload_0 d_X10_set_35 ?_
  refine r_get d_X10_set_36 s10_figures rfl rfl ?_
  refine r_push (v := nI 6) d_X10_set_39 ?_
  refine r_iload_1 d_X10_set_41 ?_
  refine r_imul d_X10_set_42 ?_
  rw [pk_mul]
  refine r_iload_2 d_X10_set_43 ?_
  refine r_iadd d_X10_set_44 ?_
  rw [nI_add]
  refine r_iald d_X10_set_45 rfl (pm_ixN (by omega) (by omega)) ?_
  refine r_istore_4 d_X10_set_46 (Nat.le_of_ble_eq_true rfl) (fun w hw => by cases hw <;> rfl) ?_
  refine r_aload_0 d_X10_set_48 ?_
  refine r_get d_X10_set_49 s10_figures rfl rfl ?_
  refine r_push (v := nI 6) d_X10_set_52 ?_
  refine r_iload_1 d_X10_set_54 ?_
  refine r_imul d_X10_set_55 ?_
  rw [pk_mul]
  refine r_iload_2 d_X10_set_56 ?_
  refine r_iadd d_X10_set_57 ?_
  rw [nI_add]
  refine r_iload_3 d_X10_set_58 ?_
  refine r_iast d_X10_set_59 rfl (pm_ixN (by omega) (by omega)) ?_
  rw [pmM_figures]
  refine r_iload_4 d_X10_set_60 ?_
  refine r_ireturn d_X10_set_62 ⟨_, rfl, rfl⟩ ?_
  exact ⟨rfl, rfl⟩
set_option maxRecDepth 10000 in
set_option maxHeartbeats 4000000 in
theorem c_X10_get_bad {h : pm_H} {mi : Nat → Int32} {ml : Nat → Int64} {A : Nat → Nat → Int32} {B : Nat → Nat → Int64} {f i : Int32} (hf : sp_in f 0 7 = false) : pm_Cv e_X10_get [.ref 44, .int f, .int i] (pmM h mi ml A B) (.int (-1)) (pmM h mi ml A B) := by
  refine pm_enter rfl (Nat.le_of_ble_eq_true rfl) ?_
  show pm_V e_X10_get 0 [some (.ref 44), some (.int f), some (.int i)] [] (pmM h mi ml A B) (0, 0) _
  refine r_iload_1 d_X10_get_0 ?_
  refine r_S1 d_X10_get_1 c_X10_isFigure ⟨rfl, rfl⟩ (Nat.le_of_ble_eq_true rfl) ?_
  rw [hf]
  show pm_V _ _ _ (.int (nI 0) :: _) _ _ _
  refine r_if_ne d_X10_get_4 (fun c4 => absurd (by decide) c4) (fun c4 => ?_)
  clear c4
  refine r_push d_X10_get_7 ?_
  refine r_goto d_X10_get_8 ?_
  refine r_ireturn d_X10_get_39 ⟨_, rfl, rfl⟩ ?_
  exact ⟨rfl, rfl⟩
set_option maxRecDepth 10000 in
set_option maxHeartbeats 4000000 in
theorem c_X10_get_far {h : pm_H} {mi : Nat → Int32} {ml : Nat → Int64} {A : Nat → Nat → Int32} {B : Nat → Nat → Int64} {f i : Int32} (hf : sp_in f 0 7 = true) (hx : sp_in i 0 5 = false) : pm_Cv e_X10_get [.ref 44, .int f, .int i] (pmM h mi ml A B) (.int (-3)) (m_meet h mi ml A B 2) := by
  refine pm_enter rfl (Nat.le_of_ble_eq_true rfl) ?_
  show pm_V e_X10_get 0 [some (.ref 44), some (.int f), some (.int i)] [] (pmM h mi ml A B) (0, 0) _
  refine r_iload_1 d_X10_get_0 ?_
  refine r_S1 d_X10_get_1 c_X10_isFigure ⟨rfl, rfl⟩ (Nat.le_of_ble_eq_true rfl) ?_
  rw [hf]
  show pm_V _ _ _ (.int (nI 1) :: _) _ _ _
  refine r_if_ne d_X10_get_4 (fun c4 => ?_) (fun c4 => absurd c4 (by decide))
  clear c4
  refine r_iload_2 d_X10_get_11 ?_
  refine r_push d_X10_get_12 ?_
  refine r_push d_X10_get_13 ?_
  refine r_S3 d_X10_get_14 c_X10_in ⟨rfl, rfl⟩ (Nat.le_of_ble_eq_true rfl) ?_
  rw [hx]
  show pm_V _ _ _ (.int (nI 0) :: _) _ _ _
  refine r_if_eq d_X10_get_17 (fun c17 => ?_) (fun c17 => absurd (by decide) c17)
  clear c17
  refine r_aload_0 d_X10_get_34 ?_
  refine r_push d_X10_get_35 ?_
  refine r_V1 d_X10_get_36 (c_X10_meets (w := 2) (by decide)) rfl rfl rfl ⟨rfl, rfl⟩ (Nat.le_of_ble_eq_true rfl) ?_
  refine r_ireturn d_X10_get_39 ⟨_, rfl, rfl⟩ ?_
  exact ⟨rfl, rfl⟩
set_option maxRecDepth 10000 in
set_option maxHeartbeats 4000000 in
theorem c_X10_get {h : pm_H} {mi : Nat → Int32} {ml : Nat → Int64} {A : Nat → Nat → Int32} {B : Nat → Nat → Int64} {p q : Nat} (hp : p < 8) (hq : q < 6) : pm_Cv e_X10_get [.ref 44, .int (nI p), .int (nI q)] (pmM h mi ml A B) (.int (A 58 (6 * p + q))) (pmM h mi ml A B) := by
  refine pm_enter rfl (Nat.le_of_ble_eq_true rfl) ?_
  show pm_V e_X10_get 0 [some (.ref 44), some (.int (nI p)), some (.int (nI q))] [] (pmM h mi ml A B) (0, 0) _
  refine r_iload_1 d_X10_get_0 ?_
  refine r_S1 d_X10_get_1 (c_X10_isFigureN (by omega)) ⟨rfl, rfl⟩ (Nat.le_of_ble_eq_true rfl) ?_
  refine r_if_ne d_X10_get_4 (fun c4 => ?_) (fun c4 => absurd c4 (by decide))
  clear c4
  refine r_iload_2 d_X10_get_11 ?_
  refine r_push (v := nI 0) d_X10_get_12 ?_
  refine r_push (v := nI 5) d_X10_get_13 ?_
  refine r_S3 d_X10_get_14 (c_X10_inN (by omega) (by omega) (by decide)) ⟨rfl, rfl⟩ (Nat.le_of_ble_eq_true rfl) ?_
  refine r_if_eq d_X10_get_17 (fun c17 => absurd c17 (by decide)) (fun c17 => ?_)
  clear c17
  refine r_aload_0 d_X10_get_20 ?_
  refine r_get d_X10_get_21 s10_figures rfl rfl ?_
  refine r_push (v := nI 6) d_X10_get_24 ?_
  refine r_iload_1 d_X10_get_26 ?_
  refine r_imul d_X10_get_27 ?_
  rw [pk_mul]
  refine r_iload_2 d_X10_get_28 ?_
  refine r_iadd d_X10_get_29 ?_
  rw [nI_add]
  refine r_iald d_X10_get_30 rfl (pm_ixN (by omega) (by omega)) ?_
  refine r_goto d_X10_get_31 ?_
  refine r_ireturn d_X10_get_39 ⟨_, rfl, rfl⟩ ?_
  exact ⟨rfl, rfl⟩
theorem sp_b_or {g : Nat → Nat} {i : Nat} (hi : i < 6) : nI (sp_b g i) ||| (nI (g i % 2) <<< (nI i &&& 31)) = nI (sp_b g (i + 1)) := by
  rcases (by omega : g i % 2 = 0 ∨ g i % 2 = 1) with e | e
  · rw [sp_b_0 e, e]
    have key : ∀ i, i < 6 → nI 0 <<< (nI i &&& 31) = 0 := by decide +kernel
    rw [key i hi]
    exact Int32.or_zero
  · rw [sp_b_1 e, e, pm_orb i hi _ (sp_b_lt g i)]
theorem m_aua {α : Type} (A : Nat → α) (k : Nat) (x y : α) : va_up (va_up A k x) k y = va_up A k y := by
  funext j; by_cases e : j = k <;> simp [va_up, e]
theorem m_aus {α : Type} (A : Nat → α) (k : Nat) : va_up A k (A k) = A := by
  funext j; by_cases e : j = k <;> simp [va_up, e]
def m_fg (a : Nat → Int32) (p : Nat) (s : Nat → Int32) (i : Nat) : Nat → Int32 := fun q => if 6 * p ≤ q ∧ q < 6 * p + i then s (q - 6 * p) else a q
theorem m_fg_0 (a : Nat → Int32) (p : Nat) (s : Nat → Int32) : m_fg a p s 0 = a := by
  funext q; unfold m_fg; rw [if_neg (by omega)]
theorem m_fg_s (a : Nat → Int32) (p : Nat) (s : Nat → Int32) (i : Nat) : upd (m_fg a p s i) (6 * p + i) (s i) = m_fg a p s (i + 1) := by
  funext q
  by_cases e : q = 6 * p + i
  · subst e
    unfold m_fg upd
    rw [if_pos rfl, if_pos (by omega), Nat.add_sub_cancel_left]
  · unfold m_fg upd
    rw [if_neg e]
    dsimp only
    by_cases e2 : 6 * p ≤ q ∧ q < 6 * p + i
    · rw [if_pos e2, if_pos (by omega)]
    · rw [if_neg e2, if_neg (by omega)]
set_option maxRecDepth 10000 in
set_option maxHeartbeats 4000000 in
theorem lp_X10_numberOf {h : pm_H} {mi : Nat → Int32} {ml : Nat → Int64} {A : Nat → Nat → Int32} {B : Nat → Nat → Int64} {p : Nat} {g : Nat → Nat} (hp : p < 8) (hg : ∀ j, j < 48 → A 58 j = nI (g j) ∧ 6 ≤ g j ∧ g j ≤ 9) {F : Option Value → pm_H → Prop} {b : Nat × Nat}  (K : pm_V e_X10_numberOf 34 [some (.ref 44), some (.int (nI p)), some (.int (nI (sp_b (fun q => g (6 * p + q)) 6))), some (.int (nI 6))] [] (pmM h mi ml A B) b F) : ∀ (d i : Nat), i + d = 6 → pm_V e_X10_numberOf 4 [some (.ref 44), some (.int (nI p)), some (.int (nI (sp_b (fun q => g (6 * p + q)) i))), some (.int (nI i))] [] (pmM h mi ml A B) b F := by
  intro d
  induction d with
  | zero =>
    intro i hi
    obtain rfl : i = 6 := by omega
    refine r_iload_3 d_X10_numberOf_4 ?_
    refine r_push (v := nI 6) d_X10_numberOf_5 ?_
    refine r_icmp_ge d_X10_numberOf_7 (fun c7 => ?_) (fun c7 => absurd (by decide) c7)
    clear c7
    exact K
  | succ d ih =>
    intro i hi
    refine r_iload_3 d_X10_numberOf_4 ?_
    refine r_push (v := nI 6) d_X10_numberOf_5 ?_
    refine r_icmp_ge d_X10_numberOf_7 (fun c7 => ?_) (fun c7 => ?_)
    · -- taken at 7
      have c7 : 6 ≤ i := (nI_leI (a := 6) (b := i) (by omega) (by omega)).mp c7
      exfalso; omega
    · -- not taken at 7
      have c7 : ¬ 6 ≤ i := fun zz9 => c7 ((nI_leI (a := 6) (b := i) (by omega) (by omega)).mpr zz9)
      refine r_iload_2 d_X10_numberOf_10 ?_
      refine r_aload_0 d_X10_numberOf_11 ?_
      refine r_get d_X10_numberOf_12 s10_figures rfl rfl ?_
      refine r_push (v := nI 6) d_X10_numberOf_15 ?_
      refine r_iload_1 d_X10_numberOf_17 ?_
      refine r_imul d_X10_numberOf_18 ?_
      rw [pk_mul]
      refine r_iload_3 d_X10_numberOf_19 ?_
      refine r_iadd d_X10_numberOf_20 ?_
      rw [nI_add]
      have hgi := hg (6 * p + i) (by omega)
      refine r_iald d_X10_numberOf_21 rfl (pm_ixN (by omega) (by omega)) ?_
      rw [hgi.1]
      refine r_push (v := nI 2) d_X10_numberOf_22 ?_
      refine r_irem d_X10_numberOf_23 (nI_ne0 (n := 2) (by omega) (by omega)) ?_
      rw [pk_rem (a := (g (6 * p + i))) (d := 2) (by omega) (by omega) (by omega)]
      refine r_iload_3 d_X10_numberOf_24 ?_
      refine r_ishl d_X10_numberOf_25 ?_
      refine r_ior d_X10_numberOf_26 ?_
      refine r_istore_2 d_X10_numberOf_27 (Nat.le_of_ble_eq_true rfl) (fun w hw => by cases hw <;> rfl) ?_
      refine r_iinc_3 d_X10_numberOf_28 (Nat.le_of_ble_eq_true rfl) (fun w hw => by cases hw <;> rfl) ?_
      rw [nI_1]
      refine r_goto d_X10_numberOf_31 ?_
      rw [show nI (g (6 * p + i) % 2) = nI ((fun q => g (6 * p + q)) i % 2) from rfl, sp_b_or (g := (fun q => g (6 * p + q))) (i := i) (by omega)]
      exact ih (i + 1) (by omega)
set_option maxRecDepth 10000 in
set_option maxHeartbeats 4000000 in
theorem c_X10_numberOf {h : pm_H} {mi : Nat → Int32} {ml : Nat → Int64} {A : Nat → Nat → Int32} {B : Nat → Nat → Int64} {p : Nat} {g : Nat → Nat} (hp : p < 8) (hg : ∀ j, j < 48 → A 58 j = nI (g j) ∧ 6 ≤ g j ∧ g j ≤ 9) : pm_Cv e_X10_numberOf [.ref 44, .int (nI p)] (pmM h mi ml A B) (.int (nI (sp_b (fun q => g (6 * p + q)) 6))) (pmM h mi ml A B) := by
  refine pm_enter rfl (Nat.le_of_ble_eq_true rfl) ?_
  show pm_V e_X10_numberOf 0 [some (.ref 44), some (.int (nI p)), none, none] [] (pmM h mi ml A B) (0, 0) _
  refine r_push (v := nI 0) d_X10_numberOf_0 ?_
  refine r_istore_2 d_X10_numberOf_1 (Nat.le_of_ble_eq_true rfl) (fun w hw => by cases hw <;> rfl) ?_
  refine r_push (v := nI 0) d_X10_numberOf_2 ?_
  refine r_istore_3 d_X10_numberOf_3 (Nat.le_of_ble_eq_true rfl) (fun w hw => by cases hw <;> rfl) ?_
  refine lp_X10_numberOf hp hg ?_ 6 0 (by omega)
  refine r_iload_2 d_X10_numberOf_34 ?_
  refine r_ireturn d_X10_numberOf_35 ⟨_, rfl, rfl⟩ ?_
  exact ⟨rfl, rfl⟩
set_option maxRecDepth 10000 in
set_option maxHeartbeats 4000000 in
theorem c_X10_number_bad {h : pm_H} {mi : Nat → Int32} {ml : Nat → Int64} {A : Nat → Nat → Int32} {B : Nat → Nat → Int64} {f : Int32} (hf : sp_in f 0 7 = false) : pm_Cv e_X10_number [.ref 44, .int f] (pmM h mi ml A B) (.int (-1)) (pmM h mi ml A B) := by
  refine pm_enter rfl (Nat.le_of_ble_eq_true rfl) ?_
  show pm_V e_X10_number 0 [some (.ref 44), some (.int f)] [] (pmM h mi ml A B) (0, 0) _
  refine r_iload_1 d_X10_number_0 ?_
  refine r_S1 d_X10_number_1 c_X10_isFigure ⟨rfl, rfl⟩ (Nat.le_of_ble_eq_true rfl) ?_
  rw [hf]
  show pm_V _ _ _ (.int (nI 0) :: _) _ _ _
  refine r_if_eq d_X10_number_4 (fun c4 => ?_) (fun c4 => absurd (by decide) c4)
  clear c4
  refine r_push d_X10_number_15 ?_
  refine r_ireturn d_X10_number_16 ⟨_, rfl, rfl⟩ ?_
  exact ⟨rfl, rfl⟩
set_option maxRecDepth 10000 in
set_option maxHeartbeats 4000000 in
theorem c_X10_number {h : pm_H} {mi : Nat → Int32} {ml : Nat → Int64} {A : Nat → Nat → Int32} {B : Nat → Nat → Int64} {p : Nat} {g : Nat → Nat} (hp : p < 8) (hg : ∀ j, j < 48 → A 58 j = nI (g j) ∧ 6 ≤ g j ∧ g j ≤ 9) : pm_Cv e_X10_number [.ref 44, .int (nI p)] (pmM h mi ml A B) (.int (nI (sp_b (fun q => g (6 * p + q)) 6))) (pmM h mi ml A B) := by
  refine pm_enter rfl (Nat.le_of_ble_eq_true rfl) ?_
  show pm_V e_X10_number 0 [some (.ref 44), some (.int (nI p))] [] (pmM h mi ml A B) (0, 0) _
  refine r_iload_1 d_X10_number_0 ?_
  refine r_S1 d_X10_number_1 (c_X10_isFigureN (by omega)) ⟨rfl, rfl⟩ (Nat.le_of_ble_eq_true rfl) ?_
  refine r_if_eq d_X10_number_4 (fun c4 => absurd c4 (by decide)) (fun c4 => ?_)
  clear c4
  refine r_aload_0 d_X10_number_7 ?_
  refine r_iload_1 d_X10_number_8 ?_
  refine r_V1 d_X10_number_9 (c_X10_numberOf hp hg) rfl rfl rfl ⟨rfl, rfl⟩ (Nat.le_of_ble_eq_true rfl) ?_
  refine r_goto d_X10_number_12 ?_
  refine r_ireturn d_X10_number_16 ⟨_, rfl, rfl⟩ ?_
  exact ⟨rfl, rfl⟩
