def sp_iv (s : sp_St) : Prop := s.1 ≤ 64 ∧ (∀ v, v < 64 → ∀ x, s.2.2.1 v = some x → x < 64) ∧ ∀ j, j < s.1 → s.2.1 j < 64
theorem sp_w1_iv {lt at_ act : Nat} {s : sp_St} (h : sp_iv s) (ha : at_ < 64) (hc : act < 9) : sp_iv (sp_w1 lt at_ s act) := by
  unfold sp_w1
  split
  · next hq =>
    refine ⟨by show s.1 + 1 ≤ 64; omega, fun v hv x hx => ?_, fun j hj => ?_⟩
    · by_cases e : v = sp_aft at_ act
      · simp [va_up, e] at hx
        omega
      · exact h.2.1 v hv x (by simpa [va_up, e] using hx)
    · by_cases e : j = s.1
      · show va_up s.2.1 s.1 _ j < 64
        simp [va_up, e]
        exact sp_aft_lt at_ ha act hc
      · show va_up s.2.1 s.1 _ j < 64
        simp [va_up, e]
        exact h.2.2 j (by have : j < s.1 + 1 := hj; omega)
  · exact h
theorem sp_wi_iv {lt at_ : Nat} {s : sp_St} (h : sp_iv s) (ha : at_ < 64) : ∀ act, act ≤ 9 → sp_iv (sp_wi lt at_ s act)
  | 0, _ => h
  | a + 1, hc => sp_w1_iv (sp_wi_iv h ha a (by omega)) ha (by omega)
theorem sp_w0_iv {x : Nat} {wt : Nat → Nat} {bf : Nat → Option Nat} {mb : Nat → Nat} (hx : x < 64) : sp_iv (sp_w0 x wt bf mb) := by
  refine ⟨by show 1 ≤ 64; omega, fun v hv y hy => ?_, fun j hj => ?_⟩
  · by_cases e : v = x
    · simp [sp_w0, va_up, e] at hy; omega
    · simp [sp_w0, va_up, e, pm_fl, hv] at hy
  · have : j = 0 := by have : j < 1 := hj; omega
    subst this
    show va_up wt 0 x 0 < 64
    simpa [va_up] using hx
set_option maxRecDepth 10000 in
set_option maxHeartbeats 4000000 in
theorem li_X8_meetAll {h : pm_H} {ac : Nat → Nat} {cn x lt : Nat} (hlt : lt < 512) {nx t : Nat} {s : sp_St} (hv : sp_iv s) (ht : t < 64) {F : Option Value → pm_H → Prop} {b : Nat × Nat} (K : ∀ o, pm_V e_X8_meetAll 130 [some (.ref 7), some (.int (nI x)), some (.int (nI lt)), some (.int (nI (sp_wi lt t s 9).1)), some (.int (nI nx)), some (.int (nI t)), some (.int (nI 9)), o] [] (pmF h (sp_wi lt t s 9).2.1 (sp_wi lt t s 9).2.2.1 (sp_wi lt t s 9).2.2.2 ac cn) b F) : ∀ (d act : Nat) (o : Option Value), act + d = 9 → pm_V e_X8_meetAll 52 [some (.ref 7), some (.int (nI x)), some (.int (nI lt)), some (.int (nI (sp_wi lt t s act).1)), some (.int (nI nx)), some (.int (nI t)), some (.int (nI act)), o] [] (pmF h (sp_wi lt t s act).2.1 (sp_wi lt t s act).2.2.1 (sp_wi lt t s act).2.2.2 ac cn) b F := by
  intro d
  induction d with
  | zero =>
    intro act o hi
    obtain rfl : act = 9 := by omega
    refine r_iload_6 d_X8_meetAll_52 ?_
    refine r_push (v := nI 9) d_X8_meetAll_54 ?_
    refine r_icmp_ge d_X8_meetAll_56 (fun c56 => ?_) (fun c56 => absurd (by decide) c56)
    clear c56
    exact K _
  | succ d ih =>
    intro act o hi
    have hv1 := sp_wi_iv (lt := lt) hv ht act (by omega)
    have hto := sp_aft_lt t ht act (by omega)
    have e0 : sp_wi lt t s (act + 1) = sp_w1 lt t (sp_wi lt t s act) act := rfl
    have K1 := fun o => ih (act + 1) o (by omega)
    rw [e0] at K1
    clear ih e0
    generalize sp_wi lt t s act = S at hv1 K1 ⊢
    obtain ⟨v1, v2, v3⟩ := hv1
    have hbn := bI_ne (v2 (sp_aft t act) hto)
    have hmod : lt / 2 ^ act % 2 < 2 := Nat.mod_lt _ (by decide)
    refine r_iload_6 d_X8_meetAll_52 ?_
    refine r_push (v := nI 9) d_X8_meetAll_54 ?_
    refine r_icmp_ge d_X8_meetAll_56 (fun c56 => ?_) (fun c56 => ?_)
    · -- taken at 56
      have c56 : 9 ≤ act := (nI_leI (a := 9) (b := act) (by omega) (by omega)).mp c56
      exfalso; omega
    · -- not taken at 56
      have c56 : ¬ 9 ≤ act := fun zz9 => c56 ((nI_leI (a := 9) (b := act) (by omega) (by omega)).mpr zz9)
      refine r_iload_5 d_X8_meetAll_59 ?_
      refine r_iload_6 d_X8_meetAll_61 ?_
      refine r_S2 d_X8_meetAll_63 (c_X8_after ht (by omega)) ⟨rfl, rfl⟩ (Nat.le_of_ble_eq_true rfl) ?_
      refine r_istore_7 d_X8_meetAll_66 (Nat.le_of_ble_eq_true rfl) (fun w hw => by cases hw <;> rfl) ?_
      refine r_iload_2 d_X8_meetAll_68 ?_
      refine r_iload_6 d_X8_meetAll_69 ?_
      refine r_ishr d_X8_meetAll_71 ?_
      refine r_push (v := nI 1) d_X8_meetAll_72 ?_
      refine r_iand d_X8_meetAll_73 ?_
      rw [pm_lbit lt hlt act (by omega)]
      refine r_push (v := nI 1) d_X8_meetAll_74 ?_
      refine r_icmp_ne d_X8_meetAll_75 (fun c75 => ?_) (fun c75 => ?_)
      · -- taken at 75
        have c75 : ¬ (lt / 2 ^ act % 2) = 1 := fun zz9 => c75 ((nI_eq (a := (lt / 2 ^ act % 2)) (b := 1) (by omega) (by omega)).mpr zz9)
        rw [show sp_w1 lt t S act = S from (by unfold sp_w1; rw [if_neg (fun z => c75 z.1)])] at K1
        refine r_iinc_6 d_X8_meetAll_124 (Nat.le_of_ble_eq_true rfl) (fun w hw => by cases hw <;> rfl) ?_
        rw [nI_1]
        refine r_goto d_X8_meetAll_127 ?_
        exact K1 _
      · -- not taken at 75
        have c75 : (lt / 2 ^ act % 2) = 1 := (nI_eq (a := (lt / 2 ^ act % 2)) (b := 1) (by omega) (by omega)).mp c75
        refine r_aload_0 d_X8_meetAll_78 ?_
        refine r_get d_X8_meetAll_79 s8_before rfl rfl ?_
        refine r_iload_7 d_X8_meetAll_82 ?_
        refine r_iald d_X8_meetAll_84 rfl (pm_ixN (by omega) (by omega)) ?_
        refine r_push d_X8_meetAll_85 ?_
        refine r_icmp_ne d_X8_meetAll_86 (fun c86 => ?_) (fun c86 => ?_)
        · -- taken at 86
          have c86 : ¬ S.2.2.1 (sp_aft t act) = none := fun z => c86 (hbn.mpr z)
          rw [show sp_w1 lt t S act = S from (by unfold sp_w1; rw [if_neg (fun z => c86 z.2.1)])] at K1
          refine r_iinc_6 d_X8_meetAll_124 (Nat.le_of_ble_eq_true rfl) (fun w hw => by cases hw <;> rfl) ?_
          rw [nI_1]
          refine r_goto d_X8_meetAll_127 ?_
          exact K1 _
        · -- not taken at 86
          have c86 : S.2.2.1 (sp_aft t act) = none := hbn.mp c86
          refine r_iload_3 d_X8_meetAll_89 ?_
          refine r_push (v := nI 64) d_X8_meetAll_90 ?_
          refine r_icmp_ge d_X8_meetAll_92 (fun c92 => ?_) (fun c92 => ?_)
          · -- taken at 92
            have c92 : 64 ≤ S.1 := (nI_leI (a := 64) (b := S.1) (by omega) (by omega)).mp c92
            rw [show sp_w1 lt t S act = S from (by unfold sp_w1; rw [if_neg (fun z => absurd z.2.2 (Nat.not_lt.mpr c92))])] at K1
            refine r_iinc_6 d_X8_meetAll_124 (Nat.le_of_ble_eq_true rfl) (fun w hw => by cases hw <;> rfl) ?_
            rw [nI_1]
            refine r_goto d_X8_meetAll_127 ?_
            exact K1 _
          · -- not taken at 92
            have c92 : ¬ 64 ≤ S.1 := fun zz9 => c92 ((nI_leI (a := 64) (b := S.1) (by omega) (by omega)).mpr zz9)
            rw [show sp_w1 lt t S act = (S.1 + 1, va_up S.2.1 S.1 (sp_aft t act), va_up S.2.2.1 (sp_aft t act) (some t), va_up S.2.2.2 (sp_aft t act) act) from (by unfold sp_w1; rw [if_pos ⟨c75, c86, Nat.lt_of_not_le c92⟩])] at K1
            refine r_aload_0 d_X8_meetAll_95 ?_
            refine r_get d_X8_meetAll_96 s8_before rfl rfl ?_
            refine r_iload_7 d_X8_meetAll_99 ?_
            refine r_iload_5 d_X8_meetAll_101 ?_
            refine r_iast d_X8_meetAll_103 rfl (pm_ixN (by omega) (by omega)) ?_
            rw [pm_bu, pmF_9]
            refine r_aload_0 d_X8_meetAll_104 ?_
            refine r_get d_X8_meetAll_105 s8_metBy rfl rfl ?_
            refine r_iload_7 d_X8_meetAll_108 ?_
            refine r_iload_6 d_X8_meetAll_110 ?_
            refine r_iast d_X8_meetAll_112 rfl (pm_ixN (by omega) (by omega)) ?_
            rw [pm_nu, pmF_10]
            refine r_aload_0 d_X8_meetAll_113 ?_
            refine r_get d_X8_meetAll_114 s8_waiting rfl rfl ?_
            refine r_iload_3 d_X8_meetAll_117 ?_
            refine r_iload_7 d_X8_meetAll_118 ?_
            refine r_iast d_X8_meetAll_120 rfl (pm_ixN (by omega) (by omega)) ?_
            rw [pm_nu, pmF_8]
            refine r_iinc_3 d_X8_meetAll_121 (Nat.le_of_ble_eq_true rfl) (fun w hw => by cases hw <;> rfl) ?_
            rw [nI_1]
            refine r_iinc_6 d_X8_meetAll_124 (Nat.le_of_ble_eq_true rfl) (fun w hw => by cases hw <;> rfl) ?_
            rw [nI_1]
            refine r_goto d_X8_meetAll_127 ?_
            exact K1 _
set_option maxRecDepth 10000 in
set_option maxHeartbeats 4000000 in
theorem lo_X8_meetAll {h : pm_H} {ac : Nat → Nat} {cn x lt : Nat} (hlt : lt < 512) {R : sp_St} {F : Option Value → pm_H → Prop} {b : Nat × Nat} (K : F none (pmF h (R).2.1 (R).2.2.1 (R).2.2.2 ac cn)) : ∀ (d nx : Nat) (s : sp_St) (o5 o6 o7 : Option Value), nx + d = 64 → sp_iv s → R = sp_wo lt d nx s → (∀ w, o5 = some w → w.category = 1) → (∀ w, o6 = some w → w.category = 1) → pm_V e_X8_meetAll 27 [some (.ref 7), some (.int (nI x)), some (.int (nI lt)), some (.int (nI (s).1)), some (.int (nI nx)), o5, o6, o7] [] (pmF h (s).2.1 (s).2.2.1 (s).2.2.2 ac cn) b F := by
  intro d
  induction d with
  | zero =>
    intro nx s o5 o6 o7 hi hv he _ _
    obtain rfl : nx = 64 := by omega
    obtain ⟨v1, v2, v3⟩ := hv
    have he : R = s := he
    subst he
    refine r_iload_4 d_X8_meetAll_27 ?_
    refine r_iload_3 d_X8_meetAll_29 ?_
    refine r_icmp_ge d_X8_meetAll_30 (fun c30 => ?_) (fun c30 => ?_)
    · -- taken at 30
      have c30 : R.1 ≤ 64 := (nI_leI (a := R.1) (b := 64) (by omega) (by omega)).mp c30
      refine r_return d_X8_meetAll_136 rfl ?_
      exact K
    · -- not taken at 30
      have c30 : ¬ R.1 ≤ 64 := fun zz9 => c30 ((nI_leI (a := R.1) (b := 64) (by omega) (by omega)).mpr zz9)
      exfalso; omega
  | succ d ih =>
    intro nx s o5 o6 o7 hi hv he h5 h6
    have hv0 := hv
    obtain ⟨v1, v2, v3⟩ := hv
    have he : R = if nx < s.1 then sp_wo lt d (nx + 1) (sp_wi lt (s.2.1 nx) s 9) else s := he
    refine r_iload_4 d_X8_meetAll_27 ?_
    refine r_iload_3 d_X8_meetAll_29 ?_
    refine r_icmp_ge d_X8_meetAll_30 (fun c30 => ?_) (fun c30 => ?_)
    · -- taken at 30
      have c30 : s.1 ≤ nx := (nI_leI (a := s.1) (b := nx) (by omega) (by omega)).mp c30
      refine r_return d_X8_meetAll_136 rfl ?_
      first
      | (exfalso; omega; done)
      | (rw [if_neg (by omega)] at he; subst he; exact K)
    · -- not taken at 30
      have c30 : ¬ s.1 ≤ nx := fun zz9 => c30 ((nI_leI (a := s.1) (b := nx) (by omega) (by omega)).mpr zz9)
      refine r_iload_4 d_X8_meetAll_33 ?_
      refine r_push (v := nI 64) d_X8_meetAll_35 ?_
      refine r_icmp_ge d_X8_meetAll_37 (fun c37 => ?_) (fun c37 => ?_)
      · -- taken at 37
        have c37 : 64 ≤ nx := (nI_leI (a := 64) (b := nx) (by omega) (by omega)).mp c37
        refine r_return d_X8_meetAll_136 rfl ?_
        first
        | (exfalso; omega; done)
        | (rw [if_neg (by omega)] at he; subst he; exact K)
      · -- not taken at 37
        have c37 : ¬ 64 ≤ nx := fun zz9 => c37 ((nI_leI (a := 64) (b := nx) (by omega) (by omega)).mpr zz9)
        refine r_aload_0 d_X8_meetAll_40 ?_
        refine r_get d_X8_meetAll_41 s8_waiting rfl rfl ?_
        refine r_iload_4 d_X8_meetAll_44 ?_
        refine r_iald d_X8_meetAll_46 rfl (pm_ixN (by omega) (by omega)) ?_
        refine r_istore_5 d_X8_meetAll_47 (Nat.le_of_ble_eq_true rfl) (fun w hw => by cases hw <;> rfl) ?_
        refine r_push (v := nI 0) d_X8_meetAll_49 ?_
        refine r_istore_6 d_X8_meetAll_50 (Nat.le_of_ble_eq_true rfl) (fun w hw => by cases hw <;> rfl) ?_
        have hat := v3 nx (by omega)
        rw [if_pos (by omega)] at he
        refine li_X8_meetAll hlt hv0 hat (fun o => ?_) 9 0 _ (by omega)
        refine r_iinc_4 d_X8_meetAll_130 (Nat.le_of_ble_eq_true rfl) (fun w hw => by cases hw <;> rfl) ?_
        rw [nI_1]
        refine r_goto d_X8_meetAll_133 ?_
        exact ih (nx + 1) _ _ _ _ (by omega) (sp_wi_iv hv0 hat 9 (by omega)) he (fun w hw => by cases hw <;> rfl) (fun w hw => by cases hw <;> rfl)
set_option maxRecDepth 10000 in
set_option maxHeartbeats 4000000 in
theorem c_X8_meetAll {h : pm_H} {wt mb ac : Nat → Nat} {bf : Nat → Option Nat} {cn x lt : Nat} (hx : x < 64) (hlt : lt < 512) : pm_C0 e_X8_meetAll [.ref 7, .int (nI x), .int (nI lt)] (pmF h wt bf mb ac cn) (pmF h ((sp_wo lt 64 0 (sp_w0 x wt bf mb))).2.1 ((sp_wo lt 64 0 (sp_w0 x wt bf mb))).2.2.1 ((sp_wo lt 64 0 (sp_w0 x wt bf mb))).2.2.2 ac cn) := by
  refine pm_enter rfl (Nat.le_of_ble_eq_true rfl) ?_
  show pm_V e_X8_meetAll 0 [some (.ref 7), some (.int (nI x)), some (.int (nI lt)), none, none, none, none, none] [] (pmF h wt bf mb ac cn) (0, 0) _
  refine r_aload_0 d_X8_meetAll_0 ?_
  refine r_get d_X8_meetAll_1 s8_before rfl rfl ?_
  refine r_push d_X8_meetAll_4 ?_
  refine r_S2v d_X8_meetAll_5 (c_J7_fill_53178 (n := 64) (by decide) rfl) ⟨rfl, rfl⟩ (Nat.le_of_ble_eq_true rfl) ?_
  rw [pm_bfl, pmF_9]
  refine r_aload_0 d_X8_meetAll_8 ?_
  refine r_get d_X8_meetAll_9 s8_before rfl rfl ?_
  refine r_iload_1 d_X8_meetAll_12 ?_
  refine r_iload_1 d_X8_meetAll_13 ?_
  refine r_iast d_X8_meetAll_14 rfl (pm_ixN (by omega) (by omega)) ?_
  rw [pm_bu, pmF_9]
  refine r_aload_0 d_X8_meetAll_15 ?_
  refine r_get d_X8_meetAll_16 s8_waiting rfl rfl ?_
  refine r_push (v := nI 0) d_X8_meetAll_19 ?_
  refine r_iload_1 d_X8_meetAll_20 ?_
  refine r_iast d_X8_meetAll_21 rfl (pm_ixN (by omega) (by omega)) ?_
  rw [pm_nu, pmF_8]
  refine r_push (v := nI 1) d_X8_meetAll_22 ?_
  refine r_istore_3 d_X8_meetAll_23 (Nat.le_of_ble_eq_true rfl) (fun w hw => by cases hw <;> rfl) ?_
  refine r_push (v := nI 0) d_X8_meetAll_24 ?_
  refine r_istore_4 d_X8_meetAll_25 (Nat.le_of_ble_eq_true rfl) (fun w hw => by cases hw <;> rfl) ?_
  exact lo_X8_meetAll hlt (R := (sp_wo lt 64 0 (sp_w0 x wt bf mb))) ⟨rfl, rfl⟩ 64 0 (sp_w0 x wt bf mb) none none none (by omega) (sp_w0_iv hx) rfl (fun w hw => by cases hw) (fun w hw => by cases hw)
theorem sp_num_of {x : Nat} (hx : x < 64) : sp_num (nI x) = true := decide_eq_true ⟨(nI_leI (a := 0) (b := x) (by omega) (by omega)).mpr (Nat.zero_le _), (nI_ltI (a := x) (b := 64) (by omega) (by omega)).mpr hx⟩
def sp_fc (bf : Nat → Option Nat) (mb : Nat → Nat) (x : Nat) : Nat → Nat → Nat → (Nat → Nat) → Nat × (Nat → Nat)
  | 0, _, cn, ac => (cn, ac)
  | d + 1, at_, cn, ac => if at_ = x then (cn, ac) else sp_fc bf mb x d ((bf at_).getD 0) (cn + 1) (va_up ac cn (mb at_))
set_option maxRecDepth 10000 in
set_option maxHeartbeats 4000000 in
theorem lp_X8_find {h : pm_H} {wt mb : Nat → Nat} {bf : Nat → Option Nat} {x y lt : Nat} (hx : x < 64) (hcl : ∀ v, v < 64 → ∀ p, bf v = some p → p < 64 ∧ ∃ q, bf p = some q) {R : Nat × (Nat → Nat)} {F : Option Value → pm_H → Prop} {b : Nat × Nat} (K : F (some (.int (nI R.1))) (pmF h wt bf mb R.2 R.1)) : ∀ (d t cn : Nat) (ac : Nat → Nat), cn + d = 64 → t < 64 → (∃ q, bf t = some q) → R = sp_fc bf mb x d t cn ac → pm_V e_X8_find 27 [some (.ref 7), some (.int (nI x)), some (.int (nI y)), some (.int (nI lt)), some (.int (nI t))] [] (pmF h wt bf mb ac cn) b F := by
  intro d
  induction d with
  | zero =>
    intro t cn ac hi ht hb he
    obtain rfl : cn = 64 := by omega
    have he : R = (64, ac) := he
    subst he
    refine r_iload_4 d_X8_find_27 ?_
    refine r_iload_1 d_X8_find_29 ?_
    refine r_icmp_eq d_X8_find_30 (fun c30 => ?_) (fun c30 => ?_)
    · -- taken at 30
      have c30 : t = x := (nI_eq (a := t) (b := x) (by omega) (by omega)).mp c30
      refine r_aload_0 d_X8_find_88 ?_
      refine r_get d_X8_find_89 s8_actCount rfl rfl ?_
      refine r_ireturn d_X8_find_92 ⟨_, rfl, rfl⟩ ?_
      exact K
    · -- not taken at 30
      have c30 : ¬ t = x := fun zz9 => c30 ((nI_eq (a := t) (b := x) (by omega) (by omega)).mpr zz9)
      refine r_iload_4 d_X8_find_33 ?_
      refine r_S1 d_X8_find_35 c_X9_isNumberB ⟨rfl, rfl⟩ (Nat.le_of_ble_eq_true rfl) ?_
      rw [sp_num_of ht]
      change pm_V _ _ _ (.int (nI 1) :: _) _ _ _
      refine r_if_eq d_X8_find_38 (fun c38 => absurd c38 (by decide)) (fun c38 => ?_)
      clear c38
      refine r_aload_0 d_X8_find_41 ?_
      refine r_get d_X8_find_42 s8_actCount rfl rfl ?_
      refine r_push (v := nI 64) d_X8_find_45 ?_
      refine r_icmp_ge d_X8_find_47 (fun c47 => ?_) (fun c47 => absurd (by decide) c47)
      clear c47
      refine r_aload_0 d_X8_find_88 ?_
      refine r_get d_X8_find_89 s8_actCount rfl rfl ?_
      refine r_ireturn d_X8_find_92 ⟨_, rfl, rfl⟩ ?_
      exact K
  | succ d ih =>
    intro t cn ac hi ht hb he
    obtain ⟨p, hp⟩ := hb
    obtain ⟨hp64, hpq⟩ := hcl t ht p hp
    have he : R = if t = x then (cn, ac) else sp_fc bf mb x d ((bf t).getD 0) (cn + 1) (va_up ac cn (mb t)) := he
    refine r_iload_4 d_X8_find_27 ?_
    refine r_iload_1 d_X8_find_29 ?_
    refine r_icmp_eq d_X8_find_30 (fun c30 => ?_) (fun c30 => ?_)
    · -- taken at 30
      have c30 : t = x := (nI_eq (a := t) (b := x) (by omega) (by omega)).mp c30
      rw [if_pos c30] at he
      subst he
      refine r_aload_0 d_X8_find_88 ?_
      refine r_get d_X8_find_89 s8_actCount rfl rfl ?_
      refine r_ireturn d_X8_find_92 ⟨_, rfl, rfl⟩ ?_
      first | (exfalso; omega; done) | exact K
    · -- not taken at 30
      have c30 : ¬ t = x := fun zz9 => c30 ((nI_eq (a := t) (b := x) (by omega) (by omega)).mpr zz9)
      rw [if_neg c30, hp] at he
      refine r_iload_4 d_X8_find_33 ?_
      refine r_S1 d_X8_find_35 c_X9_isNumberB ⟨rfl, rfl⟩ (Nat.le_of_ble_eq_true rfl) ?_
      rw [sp_num_of ht]
      change pm_V _ _ _ (.int (nI 1) :: _) _ _ _
      refine r_if_eq d_X8_find_38 (fun c38 => absurd c38 (by decide)) (fun c38 => ?_)
      clear c38
      refine r_aload_0 d_X8_find_41 ?_
      refine r_get d_X8_find_42 s8_actCount rfl rfl ?_
      refine r_push (v := nI 64) d_X8_find_45 ?_
      refine r_icmp_ge d_X8_find_47 (fun c47 => ?_) (fun c47 => ?_)
      · -- taken at 47
        have c47 : 64 ≤ cn := (nI_leI (a := 64) (b := cn) (by omega) (by omega)).mp c47
        refine r_aload_0 d_X8_find_88 ?_
        refine r_get d_X8_find_89 s8_actCount rfl rfl ?_
        refine r_ireturn d_X8_find_92 ⟨_, rfl, rfl⟩ ?_
        first | (exfalso; omega; done) | exact K
      · -- not taken at 47
        have c47 : ¬ 64 ≤ cn := fun zz9 => c47 ((nI_leI (a := 64) (b := cn) (by omega) (by omega)).mpr zz9)
        refine r_aload_0 d_X8_find_50 ?_
        refine r_get d_X8_find_51 s8_acts rfl rfl ?_
        refine r_aload_0 d_X8_find_54 ?_
        refine r_get d_X8_find_55 s8_actCount rfl rfl ?_
        refine r_aload_0 d_X8_find_58 ?_
        refine r_get d_X8_find_59 s8_metBy rfl rfl ?_
        refine r_iload_4 d_X8_find_62 ?_
        refine r_iald d_X8_find_64 rfl (pm_ixN (by omega) (by omega)) ?_
        refine r_iast d_X8_find_65 rfl (pm_ixN (by omega) (by omega)) ?_
        rw [pm_nu, pmF_11]
        refine r_aload_0 d_X8_find_66 ?_
        refine r_dup d_X8_find_67 rfl ?_
        refine r_get d_X8_find_68 s8_actCount rfl rfl ?_
        refine r_push (v := nI 1) d_X8_find_71 ?_
        refine r_iadd d_X8_find_72 ?_
        rw [nI_add]
        refine r_put d_X8_find_73 s8_actCount rfl (Nat.le_of_ble_eq_true rfl) ⟨rfl, rfl⟩ ?_
        rw [show [Value.ref 8, .ref 9, .ref 10, .ref 11, .int (nI cn)].set 4 (.int (nI (cn + 1))) = [.ref 8, .ref 9, .ref 10, .ref 11, .int (nI (cn + 1))] from rfl, pmF_7]
        refine r_aload_0 d_X8_find_76 ?_
        refine r_get d_X8_find_77 s8_before rfl rfl ?_
        refine r_iload_4 d_X8_find_80 ?_
        refine r_iald d_X8_find_82 rfl (pm_ixN (by omega) (by omega)) ?_
        rw [hp]
        show pm_V _ _ _ (.int (nI p) :: _) _ _ _
        refine r_istore_4 d_X8_find_83 (Nat.le_of_ble_eq_true rfl) (fun w hw => by cases hw <;> rfl) ?_
        refine r_goto d_X8_find_85 ?_
        exact ih p (cn + 1) _ (by omega) hp64 hpq he
set_option maxRecDepth 10000 in
set_option maxHeartbeats 4000000 in
theorem c_X8_find {h : pm_H} {wt mb ac : Nat → Nat} {bf : Nat → Option Nat} {cn x y lt : Nat} (hx : x < 64) (hy : y < 64) (hlt : lt < 512) (hcl : ∀ v, v < 64 → ∀ p, (sp_wo lt 64 0 (sp_w0 x wt bf mb)).2.2.1 v = some p → p < 64 ∧ ∃ q, (sp_wo lt 64 0 (sp_w0 x wt bf mb)).2.2.1 p = some q) : pm_Cl e_X8_find [.ref 7, .int (nI x), .int (nI y), .int (nI lt)] (pmF h wt bf mb ac cn) (fun v9 h1 => ((sp_wo lt 64 0 (sp_w0 x wt bf mb)).2.2.1 y = none ∧ v9 = some (.int (-9)) ∧ h1 = pmF h (sp_wo lt 64 0 (sp_w0 x wt bf mb)).2.1 (sp_wo lt 64 0 (sp_w0 x wt bf mb)).2.2.1 (sp_wo lt 64 0 (sp_w0 x wt bf mb)).2.2.2 ac 0) ∨ (∃ q, (sp_wo lt 64 0 (sp_w0 x wt bf mb)).2.2.1 y = some q ∧ v9 = some (.int (nI (sp_fc (sp_wo lt 64 0 (sp_w0 x wt bf mb)).2.2.1 (sp_wo lt 64 0 (sp_w0 x wt bf mb)).2.2.2 x 64 y 0 ac).1)) ∧ h1 = pmF h (sp_wo lt 64 0 (sp_w0 x wt bf mb)).2.1 (sp_wo lt 64 0 (sp_w0 x wt bf mb)).2.2.1 (sp_wo lt 64 0 (sp_w0 x wt bf mb)).2.2.2 (sp_fc (sp_wo lt 64 0 (sp_w0 x wt bf mb)).2.2.1 (sp_wo lt 64 0 (sp_w0 x wt bf mb)).2.2.2 x 64 y 0 ac).2 (sp_fc (sp_wo lt 64 0 (sp_w0 x wt bf mb)).2.2.1 (sp_wo lt 64 0 (sp_w0 x wt bf mb)).2.2.2 x 64 y 0 ac).1)) := by
  refine pm_enter rfl (Nat.le_of_ble_eq_true rfl) ?_
  show pm_V e_X8_find 0 [some (.ref 7), some (.int (nI x)), some (.int (nI y)), some (.int (nI lt)), none] [] (pmF h wt bf mb ac cn) (0, 0) _
  refine r_aload_0 d_X8_find_0 ?_
  refine r_iload_1 d_X8_find_1 ?_
  refine r_iload_3 d_X8_find_2 ?_
  refine r_V2v d_X8_find_3 (c_X8_meetAll hx hlt) rfl rfl rfl ⟨rfl, rfl⟩ (Nat.le_of_ble_eq_true rfl) ?_
  generalize (sp_wo lt 64 0 (sp_w0 x wt bf mb)) = Q at hcl ⊢
  refine r_aload_0 d_X8_find_6 ?_
  refine r_push (v := nI 0) d_X8_find_7 ?_
  refine r_put d_X8_find_8 s8_actCount rfl (Nat.le_of_ble_eq_true rfl) ⟨rfl, rfl⟩ ?_
  rw [show [Value.ref 8, .ref 9, .ref 10, .ref 11, .int (nI cn)].set 4 (.int (nI 0)) = [.ref 8, .ref 9, .ref 10, .ref 11, .int (nI 0)] from rfl, pmF_7]
  refine r_aload_0 d_X8_find_11 ?_
  refine r_get d_X8_find_12 s8_before rfl rfl ?_
  refine r_iload_2 d_X8_find_15 ?_
  refine r_iald d_X8_find_16 rfl (pm_ixN (by omega) (by omega)) ?_
  refine r_push d_X8_find_17 ?_
  refine r_icmp_ne d_X8_find_18 (fun c18 => ?_) (fun c18 => ?_)
  · -- taken at 18
    refine r_iload_2 d_X8_find_24 ?_
    refine r_istore_4 d_X8_find_25 (Nat.le_of_ble_eq_true rfl) (fun w hw => by cases hw <;> rfl) ?_
    cases hq : Q.2.2.1 y with
    | none => exact absurd ((bI_ne (fun p hp => (hcl y hy p hp).1)).mpr hq) c18
    | some q => exact lp_X8_find hx hcl (R := sp_fc Q.2.2.1 Q.2.2.2 x 64 y 0 ac) (Or.inr ⟨q, rfl, rfl, rfl⟩) 64 y 0 ac (by omega) hy ⟨q, hq⟩ rfl
  · -- not taken at 18
    refine r_push d_X8_find_21 ?_
    refine r_ireturn d_X8_find_23 ⟨_, rfl, rfl⟩ ?_
    exact Or.inl ⟨(bI_ne (fun p hp => (hcl y hy p hp).1)).mp c18, rfl, rfl⟩
