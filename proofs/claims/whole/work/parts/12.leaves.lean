/-! small methods: rows filled, bits, divisors -/
def pm_fl {α : Type} (v : α) (f : Nat → α) (i : Nat) : Nat → α := fun j => if j < i then v else f j
theorem pm_fl_0 {α : Type} (v : α) (f : Nat → α) : pm_fl v f 0 = f := by funext j; simp [pm_fl]
theorem pm_fl_s (v : Int32) (f : Nat → Int32) (i : Nat) : upd (pm_fl v f i) i v = pm_fl v f (i + 1) := by
  funext j
  simp only [upd, pm_fl]
  by_cases h : j = i
  · subst h; simp
  · by_cases h2 : j < i
    · simp [h, h2, Nat.lt_succ_of_lt h2]
    · have : ¬ j < i + 1 := by omega
      simp [h, h2, this]
theorem pm_fl_sL (v : Int64) (f : Nat → Int64) (i : Nat) : vp_updL (pm_fl v f i) i v = pm_fl v f (i + 1) := by
  funext j
  simp only [vp_updL, pm_fl]
  by_cases h : j = i
  · subst h; simp
  · by_cases h2 : j < i
    · simp [h, h2, Nat.lt_succ_of_lt h2]
    · have : ¬ j < i + 1 := by omega
      simp [h, h2, this]
abbrev at_I (n : Nat) (f : Nat → Int32) : pm_C := .inl (.int, n, .inl f)
abbrev at_Y (n : Nat) (f : Nat → Int32) : pm_C := .inl (.byte, n, .inl f)
abbrev at_Z (n : Nat) (f : Nat → Int32) : pm_C := .inl (.boolean, n, .inl f)
abbrev at_J (n : Nat) (f : Nat → Int64) : pm_C := .inl (.long, n, .inr (.inl f))
theorem pm_nar0 : vp_nar .byte (nI 0) = nI 0 := by decide
set_option maxRecDepth 10000 in
set_option maxHeartbeats 4000000 in
theorem lp_J7_fill_53178 {h : pm_H} {a n : Nat} {v : Int32} {f : Nat → Int32} (hn : n < 1000) {F : Option Value → pm_H → Prop} {b : Nat × Nat}  (K : pm_V e_J7_fill_53178 20 [some (.ref a), some (.int v), some (.int (nI n)), some (.int (nI n))] [] (pm_up h a (at_I n (pm_fl v f n))) b F) : ∀ (d i : Nat), i + d = n → pm_V e_J7_fill_53178 5 [some (.ref a), some (.int v), some (.int (nI i)), some (.int (nI n))] [] (pm_up h a (at_I n (pm_fl v f i))) b F := by
  intro d
  induction d with
  | zero =>
    intro i hi
    rw [show i = n by omega]
    refine r_iload_2 d_J7_fill_53178_5 ?_
    refine r_iload_3 d_J7_fill_53178_6 ?_
    refine r_icmp_ge d_J7_fill_53178_7 (fun c7 => ?_) (fun c7 => ?_)
    · -- taken at 7
      have c7 : n ≤ n := (nI_leI (a := n) (b := n) (by omega) (by omega)).mp c7
      exact K
    · -- not taken at 7
      have c7 : ¬ n ≤ n := fun zz9 => c7 ((nI_leI (a := n) (b := n) (by omega) (by omega)).mpr zz9)
      exfalso; omega
  | succ d ih =>
    intro i hi
    refine r_iload_2 d_J7_fill_53178_5 ?_
    refine r_iload_3 d_J7_fill_53178_6 ?_
    refine r_icmp_ge d_J7_fill_53178_7 (fun c7 => ?_) (fun c7 => ?_)
    · -- taken at 7
      have c7 : n ≤ i := (nI_leI (a := n) (b := i) (by omega) (by omega)).mp c7
      exfalso; omega
    · -- not taken at 7
      have c7 : ¬ n ≤ i := fun zz9 => c7 ((nI_leI (a := n) (b := i) (by omega) (by omega)).mpr zz9)
      refine r_aload_0 d_J7_fill_53178_10 ?_
      refine r_iload_2 d_J7_fill_53178_11 ?_
      refine r_iload_1 d_J7_fill_53178_12 ?_
      refine r_iast d_J7_fill_53178_13 pm_same (pm_ixN (by omega) (by omega)) ?_
      refine r_iinc_2 d_J7_fill_53178_14 (Nat.le_of_ble_eq_true rfl) (fun w hw => by cases hw <;> rfl) ?_
      rw [nI_1]
      refine r_goto d_J7_fill_53178_17 ?_
      rw [pm_up_up, pm_fl_s]
      exact ih (i + 1) (by omega)
set_option maxRecDepth 10000 in
set_option maxHeartbeats 4000000 in
theorem c_J7_fill_53178 {h : pm_H} {a n : Nat} {v : Int32} {f : Nat → Int32} (hn : n < 1000) (ha : h.2 a = some (at_I n f)) : pm_C0 e_J7_fill_53178 [.ref a, .int v] h (pm_up h a (at_I n (pm_fl v f n))) := by
  have eh : pm_up h a (at_I n (pm_fl v f 0)) = h := by rw [pm_fl_0]; exact pm_up_self ha
  refine pm_enter rfl (Nat.le_of_ble_eq_true rfl) ?_
  show pm_V e_J7_fill_53178 0 [some (.ref a), some (.int v), none, none] [] h (0, 0) _
  refine r_push (v := nI 0) d_J7_fill_53178_0 ?_
  refine r_istore_2 d_J7_fill_53178_1 (Nat.le_of_ble_eq_true rfl) (fun w hw => by cases hw <;> rfl) ?_
  refine r_aload_0 d_J7_fill_53178_2 ?_
  refine r_alen d_J7_fill_53178_3 ha (t0 := 0) rfl (fun z => by cases z) rfl ?_
  refine r_istore_3 d_J7_fill_53178_4 (Nat.le_of_ble_eq_true rfl) (fun w hw => by cases hw <;> rfl) ?_
  have K := lp_J7_fill_53178 (h := h) (a := a) (f := f) (v := v) (b := (0, 0)) (F := fun v9 h1 => v9 = none ∧ h1 = pm_up h a (at_I n (pm_fl v f n))) hn (r_return d_J7_fill_53178_20 rfl ⟨rfl, rfl⟩) n 0 (by omega)
  rw [eh] at K
  exact K
set_option maxRecDepth 10000 in
set_option maxHeartbeats 4000000 in
theorem lp_J7_fill_d0a16 {h : pm_H} {a n : Nat} {v : Int64} {f : Nat → Int64} (hn : n < 1000) {F : Option Value → pm_H → Prop} {b : Nat × Nat}  (K : pm_V e_J7_fill_d0a16 22 [some (.ref a), some (.long v), none, some (.int (nI n)), some (.int (nI n))] [] (pm_up h a (at_J n (pm_fl v f n))) b F) : ∀ (d i : Nat), i + d = n → pm_V e_J7_fill_d0a16 6 [some (.ref a), some (.long v), none, some (.int (nI i)), some (.int (nI n))] [] (pm_up h a (at_J n (pm_fl v f i))) b F := by
  intro d
  induction d with
  | zero =>
    intro i hi
    rw [show i = n by omega]
    refine r_iload_3 d_J7_fill_d0a16_6 ?_
    refine r_iload_4 d_J7_fill_d0a16_7 ?_
    refine r_icmp_ge d_J7_fill_d0a16_9 (fun c9 => ?_) (fun c9 => ?_)
    · -- taken at 9
      have c9 : n ≤ n := (nI_leI (a := n) (b := n) (by omega) (by omega)).mp c9
      exact K
    · -- not taken at 9
      have c9 : ¬ n ≤ n := fun zz9 => c9 ((nI_leI (a := n) (b := n) (by omega) (by omega)).mpr zz9)
      exfalso; omega
  | succ d ih =>
    intro i hi
    refine r_iload_3 d_J7_fill_d0a16_6 ?_
    refine r_iload_4 d_J7_fill_d0a16_7 ?_
    refine r_icmp_ge d_J7_fill_d0a16_9 (fun c9 => ?_) (fun c9 => ?_)
    · -- taken at 9
      have c9 : n ≤ i := (nI_leI (a := n) (b := i) (by omega) (by omega)).mp c9
      exfalso; omega
    · -- not taken at 9
      have c9 : ¬ n ≤ i := fun zz9 => c9 ((nI_leI (a := n) (b := i) (by omega) (by omega)).mpr zz9)
      refine r_aload_0 d_J7_fill_d0a16_12 ?_
      refine r_iload_3 d_J7_fill_d0a16_13 ?_
      refine r_lload_1 d_J7_fill_d0a16_14 ?_
      refine r_last d_J7_fill_d0a16_15 pm_same (pm_ixN (by omega) (by omega)) ?_
      refine r_iinc_3 d_J7_fill_d0a16_16 (Nat.le_of_ble_eq_true rfl) (fun w hw => by cases hw <;> rfl) ?_
      rw [nI_1]
      refine r_goto d_J7_fill_d0a16_19 ?_
      rw [pm_up_up, pm_fl_sL]
      exact ih (i + 1) (by omega)
set_option maxRecDepth 10000 in
set_option maxHeartbeats 4000000 in
theorem c_J7_fill_d0a16 {h : pm_H} {a n : Nat} {v : Int64} {f : Nat → Int64} (hn : n < 1000) (ha : h.2 a = some (at_J n f)) : pm_C0 e_J7_fill_d0a16 [.ref a, .long v] h (pm_up h a (at_J n (pm_fl v f n))) := by
  have eh : pm_up h a (at_J n (pm_fl v f 0)) = h := by rw [pm_fl_0]; exact pm_up_self ha
  refine pm_enter rfl (Nat.le_of_ble_eq_true rfl) ?_
  show pm_V e_J7_fill_d0a16 0 [some (.ref a), some (.long v), none, none, none] [] h (0, 0) _
  refine r_push (v := nI 0) d_J7_fill_d0a16_0 ?_
  refine r_istore_3 d_J7_fill_d0a16_1 (Nat.le_of_ble_eq_true rfl) (fun w hw => by cases hw <;> rfl) ?_
  refine r_aload_0 d_J7_fill_d0a16_2 ?_
  refine r_alen d_J7_fill_d0a16_3 ha (t0 := 1) rfl (fun z => by cases z) rfl ?_
  refine r_istore_4 d_J7_fill_d0a16_4 (Nat.le_of_ble_eq_true rfl) (fun w hw => by cases hw <;> rfl) ?_
  have K := lp_J7_fill_d0a16 (h := h) (a := a) (f := f) (v := v) (b := (0, 0)) (F := fun v9 h1 => v9 = none ∧ h1 = pm_up h a (at_J n (pm_fl v f n))) hn (r_return d_J7_fill_d0a16_22 rfl ⟨rfl, rfl⟩) n 0 (by omega)
  rw [eh] at K
  exact K
set_option maxRecDepth 10000 in
set_option maxHeartbeats 4000000 in
theorem lp_J7_fill_031fb {h : pm_H} {a n : Nat} {f : Nat → Int32} (hn : n < 1000) {F : Option Value → pm_H → Prop} {b : Nat × Nat}  (K : pm_V e_J7_fill_031fb 20 [some (.ref a), some (.int (nI 0)), some (.int (nI n)), some (.int (nI n))] [] (pm_up h a (at_Y n (pm_fl (nI 0) f n))) b F) : ∀ (d i : Nat), i + d = n → pm_V e_J7_fill_031fb 5 [some (.ref a), some (.int (nI 0)), some (.int (nI i)), some (.int (nI n))] [] (pm_up h a (at_Y n (pm_fl (nI 0) f i))) b F := by
  intro d
  induction d with
  | zero =>
    intro i hi
    rw [show i = n by omega]
    refine r_iload_2 d_J7_fill_031fb_5 ?_
    refine r_iload_3 d_J7_fill_031fb_6 ?_
    refine r_icmp_ge d_J7_fill_031fb_7 (fun c7 => ?_) (fun c7 => ?_)
    · -- taken at 7
      have c7 : n ≤ n := (nI_leI (a := n) (b := n) (by omega) (by omega)).mp c7
      exact K
    · -- not taken at 7
      have c7 : ¬ n ≤ n := fun zz9 => c7 ((nI_leI (a := n) (b := n) (by omega) (by omega)).mpr zz9)
      exfalso; omega
  | succ d ih =>
    intro i hi
    refine r_iload_2 d_J7_fill_031fb_5 ?_
    refine r_iload_3 d_J7_fill_031fb_6 ?_
    refine r_icmp_ge d_J7_fill_031fb_7 (fun c7 => ?_) (fun c7 => ?_)
    · -- taken at 7
      have c7 : n ≤ i := (nI_leI (a := n) (b := i) (by omega) (by omega)).mp c7
      exfalso; omega
    · -- not taken at 7
      have c7 : ¬ n ≤ i := fun zz9 => c7 ((nI_leI (a := n) (b := i) (by omega) (by omega)).mpr zz9)
      refine r_aload_0 d_J7_fill_031fb_10 ?_
      refine r_iload_2 d_J7_fill_031fb_11 ?_
      refine r_iload_1 d_J7_fill_031fb_12 ?_
      refine r_bast d_J7_fill_031fb_13 pm_same (pm_ixN (by omega) (by omega)) ?_
      refine r_iinc_2 d_J7_fill_031fb_14 (Nat.le_of_ble_eq_true rfl) (fun w hw => by cases hw <;> rfl) ?_
      rw [nI_1]
      refine r_goto d_J7_fill_031fb_17 ?_
      rw [pm_up_up, pm_nar0, pm_fl_s]
      exact ih (i + 1) (by omega)
set_option maxRecDepth 10000 in
set_option maxHeartbeats 4000000 in
theorem c_J7_fill_031fb {h : pm_H} {a n : Nat} {f : Nat → Int32} (hn : n < 1000) (ha : h.2 a = some (at_Y n f)) : pm_C0 e_J7_fill_031fb [.ref a, .int (nI 0)] h (pm_up h a (at_Y n (pm_fl (nI 0) f n))) := by
  have eh : pm_up h a (at_Y n (pm_fl (nI 0) f 0)) = h := by rw [pm_fl_0]; exact pm_up_self ha
  refine pm_enter rfl (Nat.le_of_ble_eq_true rfl) ?_
  show pm_V e_J7_fill_031fb 0 [some (.ref a), some (.int (nI 0)), none, none] [] h (0, 0) _
  refine r_push (v := nI 0) d_J7_fill_031fb_0 ?_
  refine r_istore_2 d_J7_fill_031fb_1 (Nat.le_of_ble_eq_true rfl) (fun w hw => by cases hw <;> rfl) ?_
  refine r_aload_0 d_J7_fill_031fb_2 ?_
  refine r_alen d_J7_fill_031fb_3 ha (t0 := 2) rfl (fun z => by cases z) rfl ?_
  refine r_istore_3 d_J7_fill_031fb_4 (Nat.le_of_ble_eq_true rfl) (fun w hw => by cases hw <;> rfl) ?_
  have K := lp_J7_fill_031fb (h := h) (a := a) (f := f) (b := (0, 0)) (F := fun v9 h1 => v9 = none ∧ h1 = pm_up h a (at_Y n (pm_fl (nI 0) f n))) hn (r_return d_J7_fill_031fb_20 rfl ⟨rfl, rfl⟩) n 0 (by omega)
  rw [eh] at K
  exact K
set_option maxRecDepth 10000 in
set_option maxHeartbeats 4000000 in
theorem c_X9_isBundle {h : pm_H} {n k : Int32} : pm_Cv e_X9_isBundle [.int n, .int k] h (.int (if 4 ≤ n ∧ n ≤ 60 ∧ 2 ≤ k ∧ k ≤ 8 then 1 else 0)) h := by
  refine pm_enter rfl (Nat.le_of_ble_eq_true rfl) ?_
  show pm_V e_X9_isBundle 0 [some (.int n), some (.int k)] [] h (0, 0) _
  refine r_iload_0 d_X9_isBundle_0 ?_
  refine r_push d_X9_isBundle_1 ?_
  refine r_icmp_lt d_X9_isBundle_2 (fun c2 => ?_) (fun c2 => ?_)
  · -- taken at 2
    refine r_push d_X9_isBundle_26 ?_
    refine r_ireturn d_X9_isBundle_27 ⟨_, rfl, rfl⟩ ?_
    exact ⟨by split <;> first | rfl | (exfalso; simp only [Int32.lt_iff_toInt_lt, Int32.le_iff_toInt_le, ← Int32.toInt_inj, pm_t0, pm_t1, pm_t2, pm_t3, pm_t4, pm_t5, pm_t6, pm_t7, pm_t8, pm_t9, pm_t10, pm_t11, pm_t12, pm_t13, pm_t14, pm_t15, pm_t30, pm_t31, pm_t59, pm_t60, pm_t63, pm_t64, pm_t511, pm_t512] at *; omega), rfl⟩
  · -- not taken at 2
    refine r_iload_0 d_X9_isBundle_5 ?_
    refine r_push d_X9_isBundle_6 ?_
    refine r_icmp_gt d_X9_isBundle_8 (fun c8 => ?_) (fun c8 => ?_)
    · -- taken at 8
      refine r_push d_X9_isBundle_26 ?_
      refine r_ireturn d_X9_isBundle_27 ⟨_, rfl, rfl⟩ ?_
      exact ⟨by split <;> first | rfl | (exfalso; simp only [Int32.lt_iff_toInt_lt, Int32.le_iff_toInt_le, ← Int32.toInt_inj, pm_t0, pm_t1, pm_t2, pm_t3, pm_t4, pm_t5, pm_t6, pm_t7, pm_t8, pm_t9, pm_t10, pm_t11, pm_t12, pm_t13, pm_t14, pm_t15, pm_t30, pm_t31, pm_t59, pm_t60, pm_t63, pm_t64, pm_t511, pm_t512] at *; omega), rfl⟩
    · -- not taken at 8
      refine r_iload_1 d_X9_isBundle_11 ?_
      refine r_push d_X9_isBundle_12 ?_
      refine r_icmp_lt d_X9_isBundle_13 (fun c13 => ?_) (fun c13 => ?_)
      · -- taken at 13
        refine r_push d_X9_isBundle_26 ?_
        refine r_ireturn d_X9_isBundle_27 ⟨_, rfl, rfl⟩ ?_
        exact ⟨by split <;> first | rfl | (exfalso; simp only [Int32.lt_iff_toInt_lt, Int32.le_iff_toInt_le, ← Int32.toInt_inj, pm_t0, pm_t1, pm_t2, pm_t3, pm_t4, pm_t5, pm_t6, pm_t7, pm_t8, pm_t9, pm_t10, pm_t11, pm_t12, pm_t13, pm_t14, pm_t15, pm_t30, pm_t31, pm_t59, pm_t60, pm_t63, pm_t64, pm_t511, pm_t512] at *; omega), rfl⟩
      · -- not taken at 13
        refine r_iload_1 d_X9_isBundle_16 ?_
        refine r_push d_X9_isBundle_17 ?_
        refine r_icmp_gt d_X9_isBundle_19 (fun c19 => ?_) (fun c19 => ?_)
        · -- taken at 19
          refine r_push d_X9_isBundle_26 ?_
          refine r_ireturn d_X9_isBundle_27 ⟨_, rfl, rfl⟩ ?_
          exact ⟨by split <;> first | rfl | (exfalso; simp only [Int32.lt_iff_toInt_lt, Int32.le_iff_toInt_le, ← Int32.toInt_inj, pm_t0, pm_t1, pm_t2, pm_t3, pm_t4, pm_t5, pm_t6, pm_t7, pm_t8, pm_t9, pm_t10, pm_t11, pm_t12, pm_t13, pm_t14, pm_t15, pm_t30, pm_t31, pm_t59, pm_t60, pm_t63, pm_t64, pm_t511, pm_t512] at *; omega), rfl⟩
        · -- not taken at 19
          refine r_push d_X9_isBundle_22 ?_
          refine r_goto d_X9_isBundle_23 ?_
          refine r_ireturn d_X9_isBundle_27 ⟨_, rfl, rfl⟩ ?_
          exact ⟨by split <;> first | rfl | (exfalso; simp only [Int32.lt_iff_toInt_lt, Int32.le_iff_toInt_le, ← Int32.toInt_inj, pm_t0, pm_t1, pm_t2, pm_t3, pm_t4, pm_t5, pm_t6, pm_t7, pm_t8, pm_t9, pm_t10, pm_t11, pm_t12, pm_t13, pm_t14, pm_t15, pm_t30, pm_t31, pm_t59, pm_t60, pm_t63, pm_t64, pm_t511, pm_t512] at *; omega), rfl⟩
set_option maxRecDepth 10000 in
set_option maxHeartbeats 4000000 in
theorem c_X9_isNumber {h : pm_H} {x : Int32} : pm_Cv e_X9_isNumber [.int x] h (.int (if 0 ≤ x ∧ x < 64 then 1 else 0)) h := by
  refine pm_enter rfl (Nat.le_of_ble_eq_true rfl) ?_
  show pm_V e_X9_isNumber 0 [some (.int x)] [] h (0, 0) _
  refine r_iload_0 d_X9_isNumber_0 ?_
  refine r_if_lt d_X9_isNumber_1 (fun c1 => ?_) (fun c1 => ?_)
  · -- taken at 1
    refine r_push d_X9_isNumber_14 ?_
    refine r_ireturn d_X9_isNumber_15 ⟨_, rfl, rfl⟩ ?_
    exact ⟨by split <;> first | rfl | (exfalso; simp only [Int32.lt_iff_toInt_lt, Int32.le_iff_toInt_le, ← Int32.toInt_inj, pm_t0, pm_t1, pm_t2, pm_t3, pm_t4, pm_t5, pm_t6, pm_t7, pm_t8, pm_t9, pm_t10, pm_t11, pm_t12, pm_t13, pm_t14, pm_t15, pm_t30, pm_t31, pm_t59, pm_t60, pm_t63, pm_t64, pm_t511, pm_t512] at *; omega), rfl⟩
  · -- not taken at 1
    refine r_iload_0 d_X9_isNumber_4 ?_
    refine r_push d_X9_isNumber_5 ?_
    refine r_icmp_ge d_X9_isNumber_7 (fun c7 => ?_) (fun c7 => ?_)
    · -- taken at 7
      refine r_push d_X9_isNumber_14 ?_
      refine r_ireturn d_X9_isNumber_15 ⟨_, rfl, rfl⟩ ?_
      exact ⟨by split <;> first | rfl | (exfalso; simp only [Int32.lt_iff_toInt_lt, Int32.le_iff_toInt_le, ← Int32.toInt_inj, pm_t0, pm_t1, pm_t2, pm_t3, pm_t4, pm_t5, pm_t6, pm_t7, pm_t8, pm_t9, pm_t10, pm_t11, pm_t12, pm_t13, pm_t14, pm_t15, pm_t30, pm_t31, pm_t59, pm_t60, pm_t63, pm_t64, pm_t511, pm_t512] at *; omega), rfl⟩
    · -- not taken at 7
      refine r_push d_X9_isNumber_10 ?_
      refine r_goto d_X9_isNumber_11 ?_
      refine r_ireturn d_X9_isNumber_15 ⟨_, rfl, rfl⟩ ?_
      exact ⟨by split <;> first | rfl | (exfalso; simp only [Int32.lt_iff_toInt_lt, Int32.le_iff_toInt_le, ← Int32.toInt_inj, pm_t0, pm_t1, pm_t2, pm_t3, pm_t4, pm_t5, pm_t6, pm_t7, pm_t8, pm_t9, pm_t10, pm_t11, pm_t12, pm_t13, pm_t14, pm_t15, pm_t30, pm_t31, pm_t59, pm_t60, pm_t63, pm_t64, pm_t511, pm_t512] at *; omega), rfl⟩
set_option maxRecDepth 10000 in
set_option maxHeartbeats 4000000 in
theorem c_X9_isOrder {h : pm_H} {x : Int32} : pm_Cv e_X9_isOrder [.int x] h (.int (if 0 ≤ x ∧ x ≤ 2 then 1 else 0)) h := by
  refine pm_enter rfl (Nat.le_of_ble_eq_true rfl) ?_
  show pm_V e_X9_isOrder 0 [some (.int x)] [] h (0, 0) _
  refine r_iload_0 d_X9_isOrder_0 ?_
  refine r_if_lt d_X9_isOrder_1 (fun c1 => ?_) (fun c1 => ?_)
  · -- taken at 1
    refine r_push d_X9_isOrder_13 ?_
    refine r_ireturn d_X9_isOrder_14 ⟨_, rfl, rfl⟩ ?_
    exact ⟨by split <;> first | rfl | (exfalso; simp only [Int32.lt_iff_toInt_lt, Int32.le_iff_toInt_le, ← Int32.toInt_inj, pm_t0, pm_t1, pm_t2, pm_t3, pm_t4, pm_t5, pm_t6, pm_t7, pm_t8, pm_t9, pm_t10, pm_t11, pm_t12, pm_t13, pm_t14, pm_t15, pm_t30, pm_t31, pm_t59, pm_t60, pm_t63, pm_t64, pm_t511, pm_t512] at *; omega), rfl⟩
  · -- not taken at 1
    refine r_iload_0 d_X9_isOrder_4 ?_
    refine r_push d_X9_isOrder_5 ?_
    refine r_icmp_gt d_X9_isOrder_6 (fun c6 => ?_) (fun c6 => ?_)
    · -- taken at 6
      refine r_push d_X9_isOrder_13 ?_
      refine r_ireturn d_X9_isOrder_14 ⟨_, rfl, rfl⟩ ?_
      exact ⟨by split <;> first | rfl | (exfalso; simp only [Int32.lt_iff_toInt_lt, Int32.le_iff_toInt_le, ← Int32.toInt_inj, pm_t0, pm_t1, pm_t2, pm_t3, pm_t4, pm_t5, pm_t6, pm_t7, pm_t8, pm_t9, pm_t10, pm_t11, pm_t12, pm_t13, pm_t14, pm_t15, pm_t30, pm_t31, pm_t59, pm_t60, pm_t63, pm_t64, pm_t511, pm_t512] at *; omega), rfl⟩
    · -- not taken at 6
      refine r_push d_X9_isOrder_9 ?_
      refine r_goto d_X9_isOrder_10 ?_
      refine r_ireturn d_X9_isOrder_14 ⟨_, rfl, rfl⟩ ?_
      exact ⟨by split <;> first | rfl | (exfalso; simp only [Int32.lt_iff_toInt_lt, Int32.le_iff_toInt_le, ← Int32.toInt_inj, pm_t0, pm_t1, pm_t2, pm_t3, pm_t4, pm_t5, pm_t6, pm_t7, pm_t8, pm_t9, pm_t10, pm_t11, pm_t12, pm_t13, pm_t14, pm_t15, pm_t30, pm_t31, pm_t59, pm_t60, pm_t63, pm_t64, pm_t511, pm_t512] at *; omega), rfl⟩
set_option maxRecDepth 10000 in
set_option maxHeartbeats 4000000 in
theorem c_X9_isOld {h : pm_H} {x : Int32} : pm_Cv e_X9_isOld [.int x] h (.int (if x = 6 ∨ x = 9 then 1 else 0)) h := by
  refine pm_enter rfl (Nat.le_of_ble_eq_true rfl) ?_
  show pm_V e_X9_isOld 0 [some (.int x)] [] h (0, 0) _
  refine r_iload_0 d_X9_isOld_0 ?_
  refine r_push d_X9_isOld_1 ?_
  refine r_icmp_eq d_X9_isOld_3 (fun c3 => ?_) (fun c3 => ?_)
  · -- taken at 3
    refine r_push d_X9_isOld_12 ?_
    refine r_goto d_X9_isOld_13 ?_
    refine r_ireturn d_X9_isOld_17 ⟨_, rfl, rfl⟩ ?_
    exact ⟨by simp [*], rfl⟩
  · -- not taken at 3
    refine r_iload_0 d_X9_isOld_6 ?_
    refine r_push d_X9_isOld_7 ?_
    refine r_icmp_ne d_X9_isOld_9 (fun c9 => ?_) (fun c9 => ?_)
    · -- taken at 9
      refine r_push d_X9_isOld_16 ?_
      refine r_ireturn d_X9_isOld_17 ⟨_, rfl, rfl⟩ ?_
      exact ⟨by simp [*], rfl⟩
    · -- not taken at 9
      refine r_push d_X9_isOld_12 ?_
      refine r_goto d_X9_isOld_13 ?_
      refine r_ireturn d_X9_isOld_17 ⟨_, rfl, rfl⟩ ?_
      exact ⟨by simp [*], rfl⟩
def sp_turn (x : Nat) : Nat := (x % 2) * 32 + (x / 2 % 2) * 16 + (x / 4 % 2) * 8 + (x / 8 % 2) * 4 + (x / 16 % 2) * 2 + (x / 32 % 2)
def sp_nest (x : Nat) : Nat := x / 2 % 8 + (x / 4 % 8) * 8
set_option maxRecDepth 10000 in
set_option maxHeartbeats 4000000 in
theorem c_X9_turnedBits {h : pm_H} {x : Nat} (hx : x < 64) : pm_Cv e_X9_turnedBits [.int (nI x)] h (.int (nI (sp_turn x))) h := by
  refine pm_enter rfl (Nat.le_of_ble_eq_true rfl) ?_
  show pm_V e_X9_turnedBits 0 [some (.int (nI x)), none, none] [] h (0, 0) _
  refine r_push (v := nI 0) d_X9_turnedBits_0 ?_
  refine r_istore_1 d_X9_turnedBits_1 (Nat.le_of_ble_eq_true rfl) (fun w hw => by cases hw <;> rfl) ?_
  refine r_push (v := nI 0) d_X9_turnedBits_2 ?_
  refine r_istore_2 d_X9_turnedBits_3 (Nat.le_of_ble_eq_true rfl) (fun w hw => by cases hw <;> rfl) ?_
  refine r_iload_2 d_X9_turnedBits_4 ?_
  refine r_push (v := nI 6) d_X9_turnedBits_5 ?_
  refine r_icmp_ge d_X9_turnedBits_7 (fun c7 => absurd c7 (by decide)) (fun c7 => ?_)
  clear c7
  refine r_iload_1 d_X9_turnedBits_10 ?_
  refine r_push (v := nI 1) d_X9_turnedBits_11 ?_
  refine r_ishl d_X9_turnedBits_12 ?_
  refine r_iload_0 d_X9_turnedBits_13 ?_
  refine r_iload_2 d_X9_turnedBits_14 ?_
  refine r_ishr d_X9_turnedBits_15 ?_
  refine r_push (v := nI 1) d_X9_turnedBits_16 ?_
  refine r_iand d_X9_turnedBits_17 ?_
  refine r_ior d_X9_turnedBits_18 ?_
  refine r_istore_1 d_X9_turnedBits_19 (Nat.le_of_ble_eq_true rfl) (fun w hw => by cases hw <;> rfl) ?_
  refine r_iinc_2 d_X9_turnedBits_20 (Nat.le_of_ble_eq_true rfl) (fun w hw => by cases hw <;> rfl) ?_
  rw [show nI 0 + 1 = nI 1 from rfl]
  refine r_goto d_X9_turnedBits_23 ?_
  refine r_iload_2 d_X9_turnedBits_4 ?_
  refine r_push (v := nI 6) d_X9_turnedBits_5 ?_
  refine r_icmp_ge d_X9_turnedBits_7 (fun c7 => absurd c7 (by decide)) (fun c7 => ?_)
  clear c7
  refine r_iload_1 d_X9_turnedBits_10 ?_
  refine r_push (v := nI 1) d_X9_turnedBits_11 ?_
  refine r_ishl d_X9_turnedBits_12 ?_
  refine r_iload_0 d_X9_turnedBits_13 ?_
  refine r_iload_2 d_X9_turnedBits_14 ?_
  refine r_ishr d_X9_turnedBits_15 ?_
  refine r_push (v := nI 1) d_X9_turnedBits_16 ?_
  refine r_iand d_X9_turnedBits_17 ?_
  refine r_ior d_X9_turnedBits_18 ?_
  refine r_istore_1 d_X9_turnedBits_19 (Nat.le_of_ble_eq_true rfl) (fun w hw => by cases hw <;> rfl) ?_
  refine r_iinc_2 d_X9_turnedBits_20 (Nat.le_of_ble_eq_true rfl) (fun w hw => by cases hw <;> rfl) ?_
  rw [show nI 1 + 1 = nI 2 from rfl]
  refine r_goto d_X9_turnedBits_23 ?_
  refine r_iload_2 d_X9_turnedBits_4 ?_
  refine r_push (v := nI 6) d_X9_turnedBits_5 ?_
  refine r_icmp_ge d_X9_turnedBits_7 (fun c7 => absurd c7 (by decide)) (fun c7 => ?_)
  clear c7
  refine r_iload_1 d_X9_turnedBits_10 ?_
  refine r_push (v := nI 1) d_X9_turnedBits_11 ?_
  refine r_ishl d_X9_turnedBits_12 ?_
  refine r_iload_0 d_X9_turnedBits_13 ?_
  refine r_iload_2 d_X9_turnedBits_14 ?_
  refine r_ishr d_X9_turnedBits_15 ?_
  refine r_push (v := nI 1) d_X9_turnedBits_16 ?_
  refine r_iand d_X9_turnedBits_17 ?_
  refine r_ior d_X9_turnedBits_18 ?_
  refine r_istore_1 d_X9_turnedBits_19 (Nat.le_of_ble_eq_true rfl) (fun w hw => by cases hw <;> rfl) ?_
  refine r_iinc_2 d_X9_turnedBits_20 (Nat.le_of_ble_eq_true rfl) (fun w hw => by cases hw <;> rfl) ?_
  rw [show nI 2 + 1 = nI 3 from rfl]
  refine r_goto d_X9_turnedBits_23 ?_
  refine r_iload_2 d_X9_turnedBits_4 ?_
  refine r_push (v := nI 6) d_X9_turnedBits_5 ?_
  refine r_icmp_ge d_X9_turnedBits_7 (fun c7 => absurd c7 (by decide)) (fun c7 => ?_)
  clear c7
  refine r_iload_1 d_X9_turnedBits_10 ?_
  refine r_push (v := nI 1) d_X9_turnedBits_11 ?_
  refine r_ishl d_X9_turnedBits_12 ?_
  refine r_iload_0 d_X9_turnedBits_13 ?_
  refine r_iload_2 d_X9_turnedBits_14 ?_
  refine r_ishr d_X9_turnedBits_15 ?_
  refine r_push (v := nI 1) d_X9_turnedBits_16 ?_
  refine r_iand d_X9_turnedBits_17 ?_
  refine r_ior d_X9_turnedBits_18 ?_
  refine r_istore_1 d_X9_turnedBits_19 (Nat.le_of_ble_eq_true rfl) (fun w hw => by cases hw <;> rfl) ?_
  refine r_iinc_2 d_X9_turnedBits_20 (Nat.le_of_ble_eq_true rfl) (fun w hw => by cases hw <;> rfl) ?_
  rw [show nI 3 + 1 = nI 4 from rfl]
  refine r_goto d_X9_turnedBits_23 ?_
  refine r_iload_2 d_X9_turnedBits_4 ?_
  refine r_push (v := nI 6) d_X9_turnedBits_5 ?_
  refine r_icmp_ge d_X9_turnedBits_7 (fun c7 => absurd c7 (by decide)) (fun c7 => ?_)
  clear c7
  refine r_iload_1 d_X9_turnedBits_10 ?_
  refine r_push (v := nI 1) d_X9_turnedBits_11 ?_
  refine r_ishl d_X9_turnedBits_12 ?_
  refine r_iload_0 d_X9_turnedBits_13 ?_
  refine r_iload_2 d_X9_turnedBits_14 ?_
  refine r_ishr d_X9_turnedBits_15 ?_
  refine r_push (v := nI 1) d_X9_turnedBits_16 ?_
  refine r_iand d_X9_turnedBits_17 ?_
  refine r_ior d_X9_turnedBits_18 ?_
  refine r_istore_1 d_X9_turnedBits_19 (Nat.le_of_ble_eq_true rfl) (fun w hw => by cases hw <;> rfl) ?_
  refine r_iinc_2 d_X9_turnedBits_20 (Nat.le_of_ble_eq_true rfl) (fun w hw => by cases hw <;> rfl) ?_
  rw [show nI 4 + 1 = nI 5 from rfl]
  refine r_goto d_X9_turnedBits_23 ?_
  refine r_iload_2 d_X9_turnedBits_4 ?_
  refine r_push (v := nI 6) d_X9_turnedBits_5 ?_
  refine r_icmp_ge d_X9_turnedBits_7 (fun c7 => absurd c7 (by decide)) (fun c7 => ?_)
  clear c7
  refine r_iload_1 d_X9_turnedBits_10 ?_
  refine r_push (v := nI 1) d_X9_turnedBits_11 ?_
  refine r_ishl d_X9_turnedBits_12 ?_
  refine r_iload_0 d_X9_turnedBits_13 ?_
  refine r_iload_2 d_X9_turnedBits_14 ?_
  refine r_ishr d_X9_turnedBits_15 ?_
  refine r_push (v := nI 1) d_X9_turnedBits_16 ?_
  refine r_iand d_X9_turnedBits_17 ?_
  refine r_ior d_X9_turnedBits_18 ?_
  refine r_istore_1 d_X9_turnedBits_19 (Nat.le_of_ble_eq_true rfl) (fun w hw => by cases hw <;> rfl) ?_
  refine r_iinc_2 d_X9_turnedBits_20 (Nat.le_of_ble_eq_true rfl) (fun w hw => by cases hw <;> rfl) ?_
  rw [show nI 5 + 1 = nI 6 from rfl]
  refine r_goto d_X9_turnedBits_23 ?_
  refine r_iload_2 d_X9_turnedBits_4 ?_
  refine r_push (v := nI 6) d_X9_turnedBits_5 ?_
  refine r_icmp_ge d_X9_turnedBits_7 (fun c7 => ?_) (fun c7 => absurd (by decide) c7)
  clear c7
  refine r_iload_1 d_X9_turnedBits_26 ?_
  refine r_ireturn d_X9_turnedBits_27 ⟨_, rfl, rfl⟩ ?_
  refine ⟨?_, rfl⟩; revert hx; revert x; decide +kernel
set_option maxRecDepth 10000 in
set_option maxHeartbeats 4000000 in
theorem c_X9_nestedBits {h : pm_H} {x : Nat} (hx : x < 64) : pm_Cv e_X9_nestedBits [.int (nI x)] h (.int (nI (sp_nest x))) h := by
  refine pm_enter rfl (Nat.le_of_ble_eq_true rfl) ?_
  show pm_V e_X9_nestedBits 0 [some (.int (nI x))] [] h (0, 0) _
  refine r_iload_0 d_X9_nestedBits_0 ?_
  refine r_push (v := nI 1) d_X9_nestedBits_1 ?_
  refine r_ishr d_X9_nestedBits_2 ?_
  refine r_push (v := nI 7) d_X9_nestedBits_3 ?_
  refine r_iand d_X9_nestedBits_5 ?_
  refine r_iload_0 d_X9_nestedBits_6 ?_
  refine r_push (v := nI 2) d_X9_nestedBits_7 ?_
  refine r_ishr d_X9_nestedBits_8 ?_
  refine r_push (v := nI 7) d_X9_nestedBits_9 ?_
  refine r_iand d_X9_nestedBits_11 ?_
  refine r_push (v := nI 3) d_X9_nestedBits_12 ?_
  refine r_ishl d_X9_nestedBits_13 ?_
  refine r_ior d_X9_nestedBits_14 ?_
  refine r_ireturn d_X9_nestedBits_15 ⟨_, rfl, rfl⟩ ?_
  refine ⟨?_, rfl⟩; revert hx; revert x; decide +kernel
set_option maxRecDepth 10000 in
set_option maxHeartbeats 4000000 in
theorem c_X9_oppositeBits {h : pm_H} {x : Nat} (hx : x < 64) : pm_Cv e_X9_oppositeBits [.int (nI x)] h (.int (nI (63 - x))) h := by
  refine pm_enter rfl (Nat.le_of_ble_eq_true rfl) ?_
  show pm_V e_X9_oppositeBits 0 [some (.int (nI x))] [] h (0, 0) _
  refine r_iload_0 d_X9_oppositeBits_0 ?_
  refine r_push (v := nI 63) d_X9_oppositeBits_1 ?_
  refine r_ixor d_X9_oppositeBits_3 ?_
  refine r_ireturn d_X9_oppositeBits_4 ⟨_, rfl, rfl⟩ ?_
  refine ⟨?_, rfl⟩; revert hx; revert x; decide +kernel
def sp_eu : Nat → Nat → Nat → Nat
  | 0, a, _ => a
  | r + 1, a, b => if b = 0 then a else sp_eu r b (a % b)
theorem sp_eu_gcd : ∀ (m a b : Nat), b < 2 ^ m → ∀ r, 2 * m + 1 ≤ r → sp_eu r a b = Nat.gcd b a
  | 0, a, b, hb, r, hr => by
    obtain ⟨r, rfl⟩ : ∃ z, r = z + 1 := ⟨r - 1, by omega⟩
    have : b = 0 := by simpa using hb
    subst this
    simp [sp_eu]
  | m + 1, a, b, hb, r, hr => by
    obtain ⟨r, rfl⟩ : ∃ z, r = z + 2 := ⟨r - 2, by omega⟩
    unfold sp_eu
    by_cases h0 : b = 0
    · subst h0; simp
    · rw [if_neg h0]
      unfold sp_eu
      by_cases h1 : a % b = 0
      · rw [if_pos h1, Nat.gcd_rec, h1]; simp
      · rw [if_neg h1]
        have hlt := Nat.mod_lt a (Nat.pos_of_ne_zero h0)
        have hlt2 := Nat.mod_lt b (Nat.pos_of_ne_zero h1)
        have hhalf : b % (a % b) < 2 ^ m := by
          have h2 : 2 ^ (m + 1) = 2 * 2 ^ m := by rw [Nat.pow_succ]; omega
          rcases Nat.lt_or_ge b (2 * (a % b)) with z | z
          · have : b % (a % b) = b - a % b := by
              rw [Nat.mod_eq_sub_mod (by omega), Nat.mod_eq_of_lt (by omega)]
            omega
          · omega
        rw [sp_eu_gcd m _ _ hhalf r (by omega), ← Nat.gcd_rec, ← Nat.gcd_rec]
set_option maxRecDepth 10000 in
set_option maxHeartbeats 4000000 in
theorem lp_X9_commonDivisor {h : pm_H} {F : Option Value → pm_H → Prop} {bb : Nat × Nat} {o5 : Option Value} : ∀ (r j a b : Nat) (o5 : Option Value), j + r = 100 → a < 2 ^ 62 → b < 2 ^ 62 → F (some (.long (lN (sp_eu r a b)))) h →
    pm_V e_X9_commonDivisor 3 [some (.long (lN a)), none, some (.long (lN b)), none, some (.int (nI j)), o5, none] [] h bb F := by
  intro r
  induction r with
  | zero =>
    intro j a b o5 hj ha hb hF
    obtain rfl : j = 100 := by omega
    refine r_iload_4 d_X9_commonDivisor_3 ?_
    refine r_push (v := nI 100) d_X9_commonDivisor_5 ?_
    refine r_icmp_ge d_X9_commonDivisor_7 (fun c7 => ?_) (fun c7 => absurd (by decide) c7)
    clear c7
    refine r_lload_0 d_X9_commonDivisor_32 ?_
    refine r_lreturn d_X9_commonDivisor_33 rfl ?_
    exact hF
  | succ r ih =>
    intro j a b o5 hj ha hb hF
    unfold sp_eu at hF
    have hq := fun z => Nat.mod_lt a (Nat.pos_of_ne_zero (n := b) z)
    refine r_iload_4 d_X9_commonDivisor_3 ?_
    refine r_push (v := nI 100) d_X9_commonDivisor_5 ?_
    refine r_icmp_ge d_X9_commonDivisor_7 (fun c7 => ?_) (fun c7 => ?_)
    · -- taken at 7
      have c7 : 100 ≤ j := (nI_leI (a := 100) (b := j) (by omega) (by omega)).mp c7
      refine r_lload_0 d_X9_commonDivisor_32 ?_
      refine r_lreturn d_X9_commonDivisor_33 rfl ?_
      first | (exfalso; omega; done) | (rw [if_pos c13] at hF; exact hF)
    · -- not taken at 7
      have c7 : ¬ 100 ≤ j := fun zz9 => c7 ((nI_leI (a := 100) (b := j) (by omega) (by omega)).mpr zz9)
      refine r_lload_2 d_X9_commonDivisor_10 ?_
      refine r_pushl (v := lN 0) d_X9_commonDivisor_11 ?_
      refine r_lcmp d_X9_commonDivisor_12 ?_
      refine r_if_eq d_X9_commonDivisor_13 (fun c13 => ?_) (fun c13 => ?_)
      · -- taken at 13
        have c13 : b = 0 := ((lg_cmp_eq (lN (b)) (lN (0))).trans (pk_lEQ (a := b) (b := 0) (by omega) (by omega))).mp c13
        refine r_lload_0 d_X9_commonDivisor_32 ?_
        refine r_lreturn d_X9_commonDivisor_33 rfl ?_
        first | (exfalso; omega; done) | (rw [if_pos c13] at hF; exact hF)
      · -- not taken at 13
        have c13 : ¬ b = 0 := fun zz9 => c13 (((lg_cmp_eq (lN (b)) (lN (0))).trans (pk_lEQ (a := b) (b := 0) (by omega) (by omega))).mpr zz9)
        rw [if_neg c13] at hF
        have hq := hq c13
        refine r_lload_0 d_X9_commonDivisor_16 ?_
        refine r_lload_2 d_X9_commonDivisor_17 ?_
        refine r_lrem d_X9_commonDivisor_18 (pm_lne0 (n := b) (by omega) (by omega)) ?_
        rw [pk_lRem (a := a) (b := b) (by omega) (by omega) (by omega)]
        refine r_lstore_5 d_X9_commonDivisor_19 (Nat.le_of_ble_eq_true rfl) (fun w hw => by cases hw <;> rfl) ?_
        refine r_lload_2 d_X9_commonDivisor_21 ?_
        refine r_lstore_0z d_X9_commonDivisor_22 (Nat.le_of_ble_eq_true rfl) ?_
        refine r_lload_5 d_X9_commonDivisor_23 ?_
        refine r_lstore_2 d_X9_commonDivisor_25 (Nat.le_of_ble_eq_true rfl) (fun w hw => by cases hw <;> rfl) ?_
        refine r_iinc_4 d_X9_commonDivisor_26 (Nat.le_of_ble_eq_true rfl) (fun w hw => by cases hw <;> rfl) ?_
        rw [nI_1]
        refine r_goto d_X9_commonDivisor_29 ?_
        exact ih (j + 1) b (a % b) _ (by omega) hb (by omega) hF
set_option maxRecDepth 10000 in
set_option maxHeartbeats 4000000 in
theorem c_X9_commonDivisor {h : pm_H} {a b m : Nat} (ha : a < 2 ^ 62) (hb : b < 2 ^ m) (hm : m ≤ 49) : pm_Cv e_X9_commonDivisor [.long (lN a), .long (lN b)] h (.long (lN (Nat.gcd b a))) h := by
  have e := sp_eu_gcd m a b hb 100 (by omega)
  have hb2 : b < 2 ^ 62 := Nat.lt_of_lt_of_le hb (Nat.pow_le_pow_right (by decide) (by omega))
  refine pm_enter rfl (Nat.le_of_ble_eq_true rfl) ?_
  show pm_V e_X9_commonDivisor 0 [some (.long (lN a)), none, some (.long (lN b)), none, none, none, none] [] h (0, 0) _
  refine r_push (v := nI 0) d_X9_commonDivisor_0 ?_
  refine r_istore_4 d_X9_commonDivisor_1 (Nat.le_of_ble_eq_true rfl) (fun w hw => by cases hw <;> rfl) ?_
  exact lp_X9_commonDivisor (o5 := none) 100 0 a b none (by omega) ha hb2 ⟨by rw [e], rfl⟩
