set_option maxRecDepth 10000 in
set_option maxHeartbeats 4000000 in
theorem l0_X10_partAll {h : pm_H} {mi : Nat → Int32} {ml : Nat → Int64} {A : Nat → Nat → Int32} {B : Nat → Nat → Int64} {c : Nat} {F : Option Value → pm_H → Prop} {b : Nat × Nat}  (K : pm_V e_X10_partAll 28 [some (.ref 44), some (.int (nI c)), some (.int (nI 61)), none, none, none, none, none] [] (pmM h mi ml A (va_up (va_up B 54 (pm_fl (lN 0) (B 54) 61)) 55 (pm_fl (lN 1) (B 55) 61))) b F) : ∀ (d i : Nat), i + d = 61 → pm_V e_X10_partAll 2 [some (.ref 44), some (.int (nI c)), some (.int (nI i)), none, none, none, none, none] [] (pmM h mi ml A (va_up (va_up B 54 (pm_fl (lN 0) (B 54) i)) 55 (pm_fl (lN 1) (B 55) i))) b F := by
  intro d
  induction d with
  | zero =>
    intro i hi
    obtain rfl : i = 61 := by omega
    refine r_iload_2 d_X10_partAll_2 ?_
    refine r_push (v := nI 60) d_X10_partAll_3 ?_
    refine r_icmp_gt d_X10_partAll_5 (fun c5 => ?_) (fun c5 => absurd (by decide) c5)
    clear c5
    exact K
  | succ d ih =>
    intro i hi
    refine r_iload_2 d_X10_partAll_2 ?_
    refine r_push (v := nI 60) d_X10_partAll_3 ?_
    refine r_icmp_gt d_X10_partAll_5 (fun c5 => ?_) (fun c5 => ?_)
    · -- taken at 5
      have c5 : 60 < i := (nI_ltI (a := 60) (b := i) (by omega) (by omega)).mp c5
      exfalso; omega
    · -- not taken at 5
      have c5 : ¬ 60 < i := fun zz9 => c5 ((nI_ltI (a := 60) (b := i) (by omega) (by omega)).mpr zz9)
      refine r_aload_0 d_X10_partAll_8 ?_
      refine r_get d_X10_partAll_9 s10_nextUps rfl rfl ?_
      refine r_iload_2 d_X10_partAll_12 ?_
      refine r_pushl (v := lN 0) d_X10_partAll_13 ?_
      refine r_last d_X10_partAll_14 rfl (pm_ixN (by omega) (by omega)) ?_
      rw [pmM_nextUps, m_auc _ 54 55 _ _ _ (by decide), show va_up (va_up B 54 (pm_fl (lN 0) (B 54) i)) 55 (pm_fl (lN 1) (B 55) i) 54 = (pm_fl (lN 0) (B 54) i) from rfl, pm_lfl_s ()]
      refine r_aload_0 d_X10_partAll_15 ?_
      refine r_get d_X10_partAll_16 s10_nextLowers rfl rfl ?_
      refine r_iload_2 d_X10_partAll_19 ?_
      refine r_pushl (v := lN 1) d_X10_partAll_20 ?_
      refine r_last d_X10_partAll_21 rfl (pm_ixN (by omega) (by omega)) ?_
      rw [pmM_nextLowers, m_au3, show va_up (va_up B 54 (pm_fl (lN 0) (B 54) (i + 1))) 55 (pm_fl (lN 1) (B 55) i) 55 = (pm_fl (lN 1) (B 55) i) from rfl, pm_lfl_s ()]
      refine r_iinc_2 d_X10_partAll_22 (Nat.le_of_ble_eq_true rfl) (fun w hw => by cases hw <;> rfl) ?_
      rw [nI_1]
      refine r_goto d_X10_partAll_25 ?_
      exact ih (i + 1) (by omega)
set_option maxRecDepth 10000 in
set_option maxHeartbeats 4000000 in
theorem l3_X10_partAll {h : pm_H} {mi : Nat → Int32} {ml : Nat → Int64} {A : Nat → Nat → Int32} {B : Nat → Nat → Int64} {c : Nat} {o3 o4 o5 o6 o7 : Option Value} {F : Option Value → pm_H → Prop} {b9 : Nat × Nat} (K : ∀ u l : Nat → Int64, (∀ j, j < 61 → u j = B 54 j ∧ l j = B 55 j) → pm_V e_X10_partAll 222 [some (.ref 44), some (.int (nI c)), some (.int (nI 61)), o3, o4, o5, o6, o7] [] (pmM h mi ml A (va_up (va_up B 52 u) 53 l)) b9 F) : ∀ (d i : Nat) (u l : Nat → Int64), i + d = 61 → (∀ j, j < i → u j = B 54 j ∧ l j = B 55 j) → pm_V e_X10_partAll 186 [some (.ref 44), some (.int (nI c)), some (.int (nI i)), o3, o4, o5, o6, o7] [] (pmM h mi ml A (va_up (va_up B 52 u) 53 l)) b9 F := by
  intro d
  induction d with
  | zero =>
    intro i u l hid hq
    obtain rfl : i = 61 := by omega
    refine r_iload_2 d_X10_partAll_186 ?_
    refine r_push (v := nI 60) d_X10_partAll_187 ?_
    refine r_icmp_gt d_X10_partAll_189 (fun c189 => ?_) (fun c189 => absurd (by decide) c189)
    clear c189
    exact K _ _ hq
  | succ d ih =>
    intro i u l hid hq
    refine r_iload_2 d_X10_partAll_186 ?_
    refine r_push (v := nI 60) d_X10_partAll_187 ?_
    refine r_icmp_gt d_X10_partAll_189 (fun c189 => ?_) (fun c189 => ?_)
    · -- taken at 189
      have c189 : 60 < i := (nI_ltI (a := 60) (b := i) (by omega) (by omega)).mp c189
      exfalso; omega
    · -- not taken at 189
      have c189 : ¬ 60 < i := fun zz9 => c189 ((nI_ltI (a := 60) (b := i) (by omega) (by omega)).mpr zz9)
      refine r_aload_0 d_X10_partAll_192 ?_
      refine r_get d_X10_partAll_193 s10_ups rfl rfl ?_
      refine r_iload_2 d_X10_partAll_196 ?_
      refine r_aload_0 d_X10_partAll_197 ?_
      refine r_get d_X10_partAll_198 s10_nextUps rfl rfl ?_
      refine r_iload_2 d_X10_partAll_201 ?_
      refine r_lald d_X10_partAll_202 rfl (pm_ixN (by omega) (by omega)) ?_
      refine r_last d_X10_partAll_203 rfl (pm_ixN (by omega) (by omega)) ?_
      rw [pmM_ups, m_auc _ 52 53 _ _ _ (by decide), show va_up (va_up B 52 u) 53 l 52 = u from rfl]
      refine r_aload_0 d_X10_partAll_204 ?_
      refine r_get d_X10_partAll_205 s10_lowers rfl rfl ?_
      refine r_iload_2 d_X10_partAll_208 ?_
      refine r_aload_0 d_X10_partAll_209 ?_
      refine r_get d_X10_partAll_210 s10_nextLowers rfl rfl ?_
      refine r_iload_2 d_X10_partAll_213 ?_
      refine r_lald d_X10_partAll_214 rfl (pm_ixN (by omega) (by omega)) ?_
      refine r_last d_X10_partAll_215 rfl (pm_ixN (by omega) (by omega)) ?_
      rw [pmM_lowers, m_au3]
      refine r_iinc_2 d_X10_partAll_216 (Nat.le_of_ble_eq_true rfl) (fun w hw => by cases hw <;> rfl) ?_
      rw [nI_1]
      refine r_goto d_X10_partAll_219 ?_
      refine ih (i + 1) _ _ (by omega) (fun j hj => ?_)
      by_cases e : j = i
      · subst e; exact ⟨if_pos rfl, if_pos rfl⟩
      · exact ⟨(if_neg e).trans (hq j (by omega)).1, (if_neg e).trans (hq j (by omega)).2⟩
set_option maxRecDepth 10000 in
set_option maxHeartbeats 4000000 in
theorem c_X10_partAll {h : pm_H} {mi : Nat → Int32} {ml : Nat → Int64} {A : Nat → Nat → Int32} {B : Nat → Nat → Int64} {c k f lo hi D sh : Nat} {g0 Hp : Nat → Nat} (hc : c < 10) (hs : m_sk A c k f lo hi) (hU : m_US (B 52) (B 53) Hp D 61) (hD : 0 < D) (hsh : 0 < sh) (hD2 : D * sh < 2 ^ 62) (hsum : sp_sum Hp 61 = D) (hg0 : sp_sum g0 61 = 0) (hdv : ∀ n, n < 61 → 2 ≤ n → 0 < Hp n → sp_places lo hi n ∣ sh) : pm_Cl e_X10_partAll [.ref 44, .int (nI c)] (pmM h mi ml A B) (fun v9 h1 => v9 = none ∧ ∃ mx B1, h1 = pmM h mi mx A B1 ∧ m_ml ml mx ∧ m_US (B1 52) (B1 53) (sp_pp k f lo hi sh Hp g0 61) (D * sh) 61 ∧ B1 56 = B 56 ∧ B1 57 = B 57) := by
  have eh : (pmM h mi ml A (va_up (va_up B 54 (pm_fl (lN 0) (B 54) 0)) 55 (pm_fl (lN 1) (B 55) 0))) = (pmM h mi ml A B) := by
    rw [show (pm_fl (lN 1) (B 55) 0) = va_up B 54 (pm_fl (lN 0) (B 54) 0) 55 from rfl, m_aus, show (pm_fl (lN 0) (B 54) 0) = B 54 from rfl, m_aus]
  have hDp := Nat.mul_pos hD hsh
  have hz : m_US (pm_fl (lN 0) (B 54) 61) (pm_fl (lN 1) (B 55) 61) g0 (D * sh) 61 := fun j hj => by
    have := sp_sum_ge (f := g0) hj
    rw [show g0 j = 0 by omega, m_u0, m_l0 hDp]
    exact ⟨if_pos hj, if_pos hj⟩
  refine pm_enter rfl (Nat.le_of_ble_eq_true rfl) ?_
  show pm_V e_X10_partAll 0 [some (.ref 44), some (.int (nI c)), none, none, none, none, none, none] [] (pmM h mi ml A B) (0, 0) _
  refine r_push (v := nI 0) d_X10_partAll_0 ?_
  refine r_istore_2 d_X10_partAll_1 (Nat.le_of_ble_eq_true rfl) (fun w hw => by cases hw <;> rfl) ?_
  rw [← eh]
  refine l0_X10_partAll ?_ 61 0 (by omega)
  refine r_push (v := nI 0) d_X10_partAll_28 ?_
  refine r_istore_2 d_X10_partAll_29 (Nat.le_of_ble_eq_true rfl) (fun w hw => by cases hw <;> rfl) ?_
  refine l2_X10_partAll (B := B) (ml := ml) hc hs hU hD hsh hD2 hsum hg0 hdv (fun mx nu nl o3 o4 o5 o6 o7 hm hV => ?_) 61 0 _ _ _ _ _ _ _ _ (by omega) (fun q _ _ => rfl) hz
  refine r_push (v := nI 0) d_X10_partAll_184 ?_
  refine r_istore_2 d_X10_partAll_185 (Nat.le_of_ble_eq_true rfl) (fun w hw => by cases hw <;> rfl) ?_
  have e2 : pmM h mi mx A (va_up (va_up B 54 nu) 55 nl) = pmM h mi mx A (va_up (va_up (va_up (va_up B 54 nu) 55 nl) 52 (B 52)) 53 (B 53)) := by
    rw [show B 52 = va_up (va_up B 54 nu) 55 nl 52 from rfl, m_aus, show B 53 = va_up (va_up B 54 nu) 55 nl 53 from rfl, m_aus]
  rw [e2]
  refine l3_X10_partAll (B := va_up (va_up B 54 nu) 55 nl) (fun u l hul => ?_) 61 0 _ _ (by omega) (fun j hj => absurd hj (by omega))
  refine r_return d_X10_partAll_222 rfl ?_
  refine ⟨rfl, mx, _, rfl, hm, fun j hj => ?_, rfl, rfl⟩
  obtain ⟨v1, v2⟩ := hV j hj
  exact ⟨(hul j hj).1.trans v1, (hul j hj).2.trans v2⟩
