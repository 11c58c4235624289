theorem pm_luu (ml : Nat → Int64) (k : Nat) (x y : Int64) : vp_updL (vp_updL ml k x) k y = vp_updL ml k y := by
  funext j
  simp only [vp_updL]
  split <;> rfl
theorem pm_lus (ml : Nat → Int64) (k : Nat) : vp_updL ml k (ml k) = ml := by
  funext j
  simp only [vp_updL]
  split
  · next h => rw [h]
  · rfl
def m_cas (A : Nat → Nat → Int32) (c kd n k f lo hi : Nat) : Prop := A 46 c = nI kd ∧ (((kd = 0 ∨ kd = 2) ∧ A 47 c = -9 ∧ A 48 c = -9) ∨ ((kd = 1 ∨ kd = 3) ∧ 4 ≤ n ∧ n ≤ 60 ∧ A 47 c = nI n ∧ m_sk A c k f lo hi ∧ (kd = 1 → lo = 1 ∧ hi = 59)))
set_option maxRecDepth 10000 in
set_option maxHeartbeats 4000000 in
theorem lp_X10_draws {h : pm_H} {mi : Nat → Int32} {ml : Nat → Int64} {A : Nat → Nat → Int32} {B : Nat → Nat → Int64} {c kd n k f lo hi : Nat} (hc : c < 10) (hs : m_sk A c k f lo hi) {F : Option Value → pm_H → Prop} {b : Nat × Nat} : ∀ (r j m : Nat) (s : Int64), j + r = 3 → m ≤ 60 → F (some (.int (nI ((sp_cl k f lo hi r m s).1 / k)))) (pmM h mi (vp_updL ml 5 (sp_cl k f lo hi r m s).2) A B) → pm_V e_X10_draws 71 [some (.ref 44), some (.int (nI c)), some (.int (nI m)), some (.int (nI j))] [] (pmM h mi (vp_updL ml 5 s) A B) b F := by
  intro r
  have hs0 := hs
  obtain ⟨g3, g4, g5, g6, g7, g8, s1, s2, s3, s4⟩ := hs
  induction r with
  | zero =>
    intro j m s hj hm hF
    obtain rfl : j = 3 := by omega
    rw [show sp_cl k f lo hi 0 m s = (m, s) by rw [sp_cl]] at hF
    refine r_iload_3 d_X10_draws_71 ?_
    refine r_push (v := nI 3) d_X10_draws_72 ?_
    refine r_icmp_ge d_X10_draws_73 (fun c73 => ?_) (fun c73 => absurd (by decide) c73)
    clear c73
    refine r_iload_2 d_X10_draws_111 ?_
    refine r_aload_0 d_X10_draws_112 ?_
    refine r_get d_X10_draws_113 s10_counts rfl rfl ?_
    refine r_iload_1 d_X10_draws_116 ?_
    refine r_iald d_X10_draws_117 rfl (pm_ixN hc (by decide)) ?_
    rw [s1]
    refine r_idiv d_X10_draws_118 (nI_ne0 (n := k) (by omega) (by omega)) ?_
    rw [pk_div (a := m) (d := k) (by omega) (by omega) (by omega)]
    refine r_ireturn d_X10_draws_119 ⟨_, rfl, rfl⟩ ?_
    exact hF
  | succ r ih =>
    intro j m s hj hm hF
    rw [show sp_cl k f lo hi (r + 1) m s = if m < 2 then (m, s) else sp_cl k f lo hi r (sp_left k f m (sp_first lo m + sp_un (sp_seed s) (sp_places lo hi m))) (sp_seed s) by rw [sp_cl]] at hF
    by_cases hm2 : m < 2
    · rw [if_pos hm2] at hF
      refine r_iload_3 d_X10_draws_71 ?_
      refine r_push (v := nI 3) d_X10_draws_72 ?_
      refine r_icmp_ge d_X10_draws_73 (fun c73 => ?_) (fun c73 => ?_)
      · -- taken at 73
        have c73 : 3 ≤ j := (nI_leI (a := 3) (b := j) (by omega) (by omega)).mp c73
        refine r_iload_2 d_X10_draws_111 ?_
        refine r_aload_0 d_X10_draws_112 ?_
        refine r_get d_X10_draws_113 s10_counts rfl rfl ?_
        refine r_iload_1 d_X10_draws_116 ?_
        refine r_iald d_X10_draws_117 rfl (pm_ixN hc (by decide)) ?_
        rw [s1]
        refine r_idiv d_X10_draws_118 (nI_ne0 (n := k) (by omega) (by omega)) ?_
        rw [pk_div (a := m) (d := k) (by omega) (by omega) (by omega)]
        refine r_ireturn d_X10_draws_119 ⟨_, rfl, rfl⟩ ?_
        first | (exfalso; omega; done) | exact hF
      · -- not taken at 73
        have c73 : ¬ 3 ≤ j := fun zz9 => c73 ((nI_leI (a := 3) (b := j) (by omega) (by omega)).mpr zz9)
        refine r_iload_2 d_X10_draws_76 ?_
        refine r_push (v := nI 1) d_X10_draws_77 ?_
        refine r_icmp_le d_X10_draws_78 (fun c78 => ?_) (fun c78 => ?_)
        · -- taken at 78
          have c78 : m ≤ 1 := (nI_leI (a := m) (b := 1) (by omega) (by omega)).mp c78
          refine r_iload_2 d_X10_draws_111 ?_
          refine r_aload_0 d_X10_draws_112 ?_
          refine r_get d_X10_draws_113 s10_counts rfl rfl ?_
          refine r_iload_1 d_X10_draws_116 ?_
          refine r_iald d_X10_draws_117 rfl (pm_ixN hc (by decide)) ?_
          rw [s1]
          refine r_idiv d_X10_draws_118 (nI_ne0 (n := k) (by omega) (by omega)) ?_
          rw [pk_div (a := m) (d := k) (by omega) (by omega) (by omega)]
          refine r_ireturn d_X10_draws_119 ⟨_, rfl, rfl⟩ ?_
          first | (exfalso; omega; done) | exact hF
        · -- not taken at 78
          have c78 : ¬ m ≤ 1 := fun zz9 => c78 ((nI_leI (a := m) (b := 1) (by omega) (by omega)).mpr zz9)
          exfalso; omega
    · rw [if_neg hm2] at hF
      have hp := sp_places_in (n := m) (by omega) g6 g7 g8
      have hu := sp_un_lt (s := sp_seed s) (m := sp_places lo hi m) (by omega)
      have hf := sp_first_in (lo := lo) (n := m) (by omega) g6
      have hlt := sp_left_lt (k := k) (f := f) (n := m) (a := sp_first lo m + sp_un (sp_seed s) (sp_places lo hi m)) (by omega) (by omega) (by omega)
      refine r_iload_3 d_X10_draws_71 ?_
      refine r_push (v := nI 3) d_X10_draws_72 ?_
      refine r_icmp_ge d_X10_draws_73 (fun c73 => ?_) (fun c73 => ?_)
      · -- taken at 73
        have c73 : 3 ≤ j := (nI_leI (a := 3) (b := j) (by omega) (by omega)).mp c73
        exfalso; omega
      · -- not taken at 73
        have c73 : ¬ 3 ≤ j := fun zz9 => c73 ((nI_leI (a := 3) (b := j) (by omega) (by omega)).mpr zz9)
        refine r_iload_2 d_X10_draws_76 ?_
        refine r_push (v := nI 1) d_X10_draws_77 ?_
        refine r_icmp_le d_X10_draws_78 (fun c78 => ?_) (fun c78 => ?_)
        · -- taken at 78
          have c78 : m ≤ 1 := (nI_leI (a := m) (b := 1) (by omega) (by omega)).mp c78
          exfalso; omega
        · -- not taken at 78
          have c78 : ¬ m ≤ 1 := fun zz9 => c78 ((nI_leI (a := m) (b := 1) (by omega) (by omega)).mpr zz9)
          refine r_aload_0 d_X10_draws_81 ?_
          refine r_iload_1 d_X10_draws_82 ?_
          refine r_iload_2 d_X10_draws_83 ?_
          refine r_aload_0 d_X10_draws_84 ?_
          refine r_iload_1 d_X10_draws_85 ?_
          refine r_iload_2 d_X10_draws_86 ?_
          refine r_V2 d_X10_draws_87 (c_X10_first hc hs0 ⟨by omega, hm⟩) rfl rfl rfl ⟨rfl, rfl⟩ (Nat.le_of_ble_eq_true rfl) ?_
          refine r_aload_0 d_X10_draws_90 ?_
          refine r_aload_0 d_X10_draws_91 ?_
          refine r_iload_1 d_X10_draws_92 ?_
          refine r_iload_2 d_X10_draws_93 ?_
          refine r_V2 d_X10_draws_94 (c_X10_places hc hs0 ⟨by omega, hm⟩) rfl rfl rfl ⟨rfl, rfl⟩ (Nat.le_of_ble_eq_true rfl) ?_
          refine r_V1 d_X10_draws_97 (c_X10_under ⟨by omega, by omega⟩) rfl rfl rfl ⟨rfl, rfl⟩ (Nat.le_of_ble_eq_true rfl) ?_
          rw [show vp_updL ml 5 s 5 = s from rfl, pm_luu]
          refine r_iadd d_X10_draws_100 ?_
          rw [nI_add]
          refine r_V3 d_X10_draws_101 (c_X10_left hc hs0 hm ⟨by omega, by omega⟩) rfl rfl rfl ⟨rfl, rfl⟩ (Nat.le_of_ble_eq_true rfl) ?_
          refine r_istore_2 d_X10_draws_104 (Nat.le_of_ble_eq_true rfl) (fun w hw => by cases hw <;> rfl) ?_
          refine r_iinc_3 d_X10_draws_105 (Nat.le_of_ble_eq_true rfl) (fun w hw => by cases hw <;> rfl) ?_
          rw [nI_1]
          refine r_goto d_X10_draws_108 ?_
          exact ih (j + 1) _ _ (by omega) (by omega) hF
set_option maxRecDepth 10000 in
set_option maxHeartbeats 4000000 in
theorem c_X10_draws {h : pm_H} {mi : Nat → Int32} {ml : Nat → Int64} {A : Nat → Nat → Int32} {B : Nat → Nat → Int64} {c kd n k f lo hi : Nat} (hc : c < 10) (hs : m_cas A c kd n k f lo hi) : pm_Cv e_X10_draws [.ref 44, .int (nI c)] (pmM h mi ml A B) (.int (nI (sp_draw kd n k f lo hi (ml 5)).1)) (pmM h mi (vp_updL ml 5 (sp_draw kd n k f lo hi (ml 5)).2) A B) := by
  obtain ⟨hk, hq⟩ := hs
  have hkd : kd ≤ 3 := by rcases hq with ⟨h1, -⟩ | ⟨h1, -⟩ <;> omega
  have hu := sp_un_lt (s := sp_seed (ml 5)) (m := 8) (by decide)
  refine pm_enter rfl (Nat.le_of_ble_eq_true rfl) ?_
  show pm_V e_X10_draws 0 [some (.ref 44), some (.int (nI c)), none, none] [] (pmM h mi ml A B) (0, 0) _
  refine r_aload_0 d_X10_draws_0 ?_
  refine r_get d_X10_draws_1 s10_kinds rfl rfl ?_
  refine r_iload_1 d_X10_draws_4 ?_
  refine r_iald d_X10_draws_5 rfl (pm_ixN hc (by decide)) ?_
  rw [hk]
  refine r_if_ne d_X10_draws_6 (fun c6 => ?_) (fun c6 => ?_)
  · -- taken at 6
    have c6 : ¬ kd = 0 := fun zz9 => c6 ((nI_eq (a := kd) (b := 0) (by omega) (by omega)).mpr zz9)
    refine r_aload_0 d_X10_draws_12 ?_
    refine r_get d_X10_draws_13 s10_kinds rfl rfl ?_
    refine r_iload_1 d_X10_draws_16 ?_
    refine r_iald d_X10_draws_17 rfl (pm_ixN hc (by decide)) ?_
    rw [hk]
    refine r_push (v := nI 2) d_X10_draws_18 ?_
    refine r_icmp_ne d_X10_draws_19 (fun c19 => ?_) (fun c19 => ?_)
    · -- taken at 19
      have c19 : ¬ kd = 2 := fun zz9 => c19 ((nI_eq (a := kd) (b := 2) (by omega) (by omega)).mpr zz9)
      rcases hq with ⟨h1, -⟩ | ⟨h1, h4, h60, h47, hsk, -⟩
      · exfalso; omega
      · refine r_aload_0 d_X10_draws_62 ?_
        refine r_get d_X10_draws_63 s10_sticks rfl rfl ?_
        refine r_iload_1 d_X10_draws_66 ?_
        refine r_iald d_X10_draws_67 rfl (pm_ixN hc (by decide)) ?_
        rw [h47]
        refine r_istore_2 d_X10_draws_68 (Nat.le_of_ble_eq_true rfl) (fun w hw => by cases hw <;> rfl) ?_
        refine r_push (v := nI 0) d_X10_draws_69 ?_
        refine r_istore_3 d_X10_draws_70 (Nat.le_of_ble_eq_true rfl) (fun w hw => by cases hw <;> rfl) ?_
        have K := lp_X10_draws (h := h) (mi := mi) (ml := ml) (B := B) (kd := kd) (n := n) (b := (0, 0)) (F := fun v9 h1 => v9 = some (.int (nI (sp_draw kd n k f lo hi (ml 5)).1)) ∧ h1 = pmM h mi (vp_updL ml 5 (sp_draw kd n k f lo hi (ml 5)).2) A B) hc hsk 3 0 n (ml 5) rfl h60 (by rw [sp_draw_1 h1]; exact ⟨rfl, rfl⟩)
        rw [pm_lus] at K
        exact K
    · -- not taken at 19
      have c19 : kd = 2 := (nI_eq (a := kd) (b := 2) (by omega) (by omega)).mp c19
      refine r_aload_0 d_X10_draws_22 ?_
      refine r_push (v := nI 8) d_X10_draws_23 ?_
      refine r_V1 d_X10_draws_25 (c_X10_under ⟨by decide, by decide⟩) rfl rfl rfl ⟨rfl, rfl⟩ (Nat.le_of_ble_eq_true rfl) ?_
      refine r_istore_2 d_X10_draws_28 (Nat.le_of_ble_eq_true rfl) (fun w hw => by cases hw <;> rfl) ?_
      refine r_iload_2 d_X10_draws_29 ?_
      refine r_if_ne d_X10_draws_30 (fun c30 => ?_) (fun c30 => ?_)
      · -- taken at 30
        have c30 : ¬ (sp_un (sp_seed (ml 5)) 8) = 0 := fun zz9 => c30 ((nI_eq (a := (sp_un (sp_seed (ml 5)) 8)) (b := 0) (by omega) (by omega)).mpr zz9)
        refine r_iload_2 d_X10_draws_38 ?_
        refine r_push (v := nI 4) d_X10_draws_39 ?_
        refine r_icmp_ge d_X10_draws_40 (fun c40 => ?_) (fun c40 => ?_)
        · -- taken at 40
          have c40 : 4 ≤ (sp_un (sp_seed (ml 5)) 8) := (nI_leI (a := 4) (b := (sp_un (sp_seed (ml 5)) 8)) (by omega) (by omega)).mp c40
          refine r_iload_2 d_X10_draws_48 ?_
          refine r_push (v := nI 7) d_X10_draws_49 ?_
          refine r_icmp_ge d_X10_draws_51 (fun c51 => ?_) (fun c51 => ?_)
          · -- taken at 51
            have c51 : 7 ≤ (sp_un (sp_seed (ml 5)) 8) := (nI_leI (a := 7) (b := (sp_un (sp_seed (ml 5)) 8)) (by omega) (by omega)).mp c51
            refine r_push (v := nI 9) d_X10_draws_59 ?_
            refine r_ireturn d_X10_draws_61 ⟨_, rfl, rfl⟩ ?_
            subst c19
            rw [sp_draw_2]
            exact ⟨congrArg (fun z => some (Value.int (nI z))) (by show _ = sp_coin _; unfold sp_coin; split <;> (try split) <;> (try split) <;> omega), rfl⟩
          · -- not taken at 51
            have c51 : ¬ 7 ≤ (sp_un (sp_seed (ml 5)) 8) := fun zz9 => c51 ((nI_leI (a := 7) (b := (sp_un (sp_seed (ml 5)) 8)) (by omega) (by omega)).mpr zz9)
            refine r_push (v := nI 8) d_X10_draws_54 ?_
            refine r_goto d_X10_draws_56 ?_
            refine r_ireturn d_X10_draws_61 ⟨_, rfl, rfl⟩ ?_
            subst c19
            rw [sp_draw_2]
            exact ⟨congrArg (fun z => some (Value.int (nI z))) (by show _ = sp_coin _; unfold sp_coin; split <;> (try split) <;> (try split) <;> omega), rfl⟩
        · -- not taken at 40
          have c40 : ¬ 4 ≤ (sp_un (sp_seed (ml 5)) 8) := fun zz9 => c40 ((nI_leI (a := 4) (b := (sp_un (sp_seed (ml 5)) 8)) (by omega) (by omega)).mpr zz9)
          refine r_push (v := nI 7) d_X10_draws_43 ?_
          refine r_goto d_X10_draws_45 ?_
          refine r_ireturn d_X10_draws_61 ⟨_, rfl, rfl⟩ ?_
          subst c19
          rw [sp_draw_2]
          exact ⟨congrArg (fun z => some (Value.int (nI z))) (by show _ = sp_coin _; unfold sp_coin; split <;> (try split) <;> (try split) <;> omega), rfl⟩
      · -- not taken at 30
        have c30 : (sp_un (sp_seed (ml 5)) 8) = 0 := (nI_eq (a := (sp_un (sp_seed (ml 5)) 8)) (b := 0) (by omega) (by omega)).mp c30
        refine r_push (v := nI 6) d_X10_draws_33 ?_
        refine r_goto d_X10_draws_35 ?_
        refine r_ireturn d_X10_draws_61 ⟨_, rfl, rfl⟩ ?_
        subst c19
        rw [sp_draw_2]
        exact ⟨congrArg (fun z => some (Value.int (nI z))) (by show _ = sp_coin _; unfold sp_coin; split <;> (try split) <;> (try split) <;> omega), rfl⟩
  · -- not taken at 6
    have c6 : kd = 0 := (nI_eq (a := kd) (b := 0) (by omega) (by omega)).mp c6
    refine r_push (v := nI 7) d_X10_draws_9 ?_
    refine r_ireturn d_X10_draws_11 ⟨_, rfl, rfl⟩ ?_
    subst c6
    rw [sp_draw_0, pm_lus]
    exact ⟨rfl, rfl⟩
set_option maxRecDepth 10000 in
set_option maxHeartbeats 4000000 in
theorem c_X10_put_full {h : pm_H} {mi : Nat → Int32} {ml : Nat → Int64} {A : Nat → Nat → Int32} {B : Nat → Nat → Int64} {a1 a2 a3 a4 a5 a6 : Int32} (hf : mi 1 = nI 10) : pm_Cv e_X10_put [.ref 44, .int a1, .int a2, .int a3, .int a4, .int a5, .int a6] (pmM h mi ml A B) (.int (-2)) (pmM h mi ml A B) := by
  refine pm_enter rfl (Nat.le_of_ble_eq_true rfl) ?_
  show pm_V e_X10_put 0 [some (.ref 44), some (.int a1), some (.int a2), some (.int a3), some (.int a4), some (.int a5), some (.int a6)] [] (pmM h mi ml A B) (0, 0) _
  refine r_aload_0 d_X10_put_0 ?_
  refine r_get d_X10_put_1 s10_casters rfl rfl ?_
  refine r_push d_X10_put_4 ?_
  refine r_icmp_ne d_X10_put_6 (fun c6 => ?_) (fun c6 => ?_)
  · -- taken at 6
    exact absurd hf c6
  · -- not taken at 6
    refine r_push d_X10_put_9 ?_
    refine r_ireturn d_X10_put_11 ⟨_, rfl, rfl⟩ ?_
    exact ⟨rfl, rfl⟩
set_option maxRecDepth 10000 in
set_option maxHeartbeats 4000000 in
theorem c_X10_put {h : pm_H} {mi : Nat → Int32} {ml : Nat → Int64} {A : Nat → Nat → Int32} {B : Nat → Nat → Int64} {a1 a2 a3 a4 a5 a6 : Int32} {cn : Nat} (hf : mi 1 = nI cn) (hn : cn < 10) : pm_Cv e_X10_put [.ref 44, .int a1, .int a2, .int a3, .int a4, .int a5, .int a6] (pmM h mi ml A B) (.int (nI cn)) (pmM h (upd mi 1 (nI (cn + 1))) ml (va_up (va_up (va_up (va_up (va_up (va_up A 46 (upd (A 46) cn a1)) 47 (upd (A 47) cn a2)) 48 (upd (A 48) cn a3)) 49 (upd (A 49) cn (vp_nar .boolean a4))) 50 (upd (A 50) cn a5)) 51 (upd (A 51) cn a6)) B) := by
  refine pm_enter rfl (Nat.le_of_ble_eq_true rfl) ?_
  show pm_V e_X10_put 0 [some (.ref 44), some (.int a1), some (.int a2), some (.int a3), some (.int a4), some (.int a5), some (.int a6)] [] (pmM h mi ml A B) (0, 0) _
  refine r_aload_0 d_X10_put_0 ?_
  refine r_get d_X10_put_1 s10_casters rfl rfl ?_
  refine r_push d_X10_put_4 ?_
  refine r_icmp_ne d_X10_put_6 (fun c6 => ?_) (fun c6 => ?_)
  · -- taken at 6
    refine r_aload_0 d_X10_put_12 ?_
    refine r_get d_X10_put_13 s10_kinds rfl rfl ?_
    refine r_aload_0 d_X10_put_16 ?_
    refine r_get d_X10_put_17 s10_casters rfl rfl ?_
    rw [hf]
    refine r_iload_1 d_X10_put_20 ?_
    refine r_iast d_X10_put_21 rfl (pm_ixN hn (by decide)) ?_
    rw [pmM_kinds]
    refine r_aload_0 d_X10_put_22 ?_
    refine r_get d_X10_put_23 s10_sticks rfl rfl ?_
    refine r_aload_0 d_X10_put_26 ?_
    refine r_get d_X10_put_27 s10_casters rfl rfl ?_
    rw [hf]
    refine r_iload_2 d_X10_put_30 ?_
    refine r_iast d_X10_put_31 rfl (pm_ixN hn (by decide)) ?_
    rw [pmM_sticks]
    refine r_aload_0 d_X10_put_32 ?_
    refine r_get d_X10_put_33 s10_counts rfl rfl ?_
    refine r_aload_0 d_X10_put_36 ?_
    refine r_get d_X10_put_37 s10_casters rfl rfl ?_
    rw [hf]
    refine r_iload_3 d_X10_put_40 ?_
    refine r_iast d_X10_put_41 rfl (pm_ixN hn (by decide)) ?_
    rw [pmM_counts]
    refine r_aload_0 d_X10_put_42 ?_
    refine r_get d_X10_put_43 s10_hasFinger rfl rfl ?_
    refine r_aload_0 d_X10_put_46 ?_
    refine r_get d_X10_put_47 s10_casters rfl rfl ?_
    rw [hf]
    refine r_iload_4 d_X10_put_50 ?_
    refine r_zast d_X10_put_52 rfl (pm_ixN hn (by decide)) ?_
    rw [pmM_hasFinger]
    refine r_aload_0 d_X10_put_53 ?_
    refine r_get d_X10_put_54 s10_lows rfl rfl ?_
    refine r_aload_0 d_X10_put_57 ?_
    refine r_get d_X10_put_58 s10_casters rfl rfl ?_
    rw [hf]
    refine r_iload_5 d_X10_put_61 ?_
    refine r_iast d_X10_put_63 rfl (pm_ixN hn (by decide)) ?_
    rw [pmM_lows]
    refine r_aload_0 d_X10_put_64 ?_
    refine r_get d_X10_put_65 s10_highs rfl rfl ?_
    refine r_aload_0 d_X10_put_68 ?_
    refine r_get d_X10_put_69 s10_casters rfl rfl ?_
    rw [hf]
    refine r_iload_6 d_X10_put_72 ?_
    refine r_iast d_X10_put_74 rfl (pm_ixN hn (by decide)) ?_
    rw [pmM_highs]
    refine r_aload_0 d_X10_put_75 ?_
    refine r_dup d_X10_put_76 rfl ?_
    refine r_get d_X10_put_77 s10_casters rfl rfl ?_
    rw [hf]
    refine r_push (v := nI 1) d_X10_put_80 ?_
    refine r_iadd d_X10_put_81 ?_
    rw [nI_add]
    refine r_put d_X10_put_82 s10_casters rfl (Nat.le_of_ble_eq_true rfl) ⟨rfl, rfl⟩ ?_
    rw [pmM_casters]
    refine r_aload_0 d_X10_put_85 ?_
    refine r_get d_X10_put_86 s10_casters rfl rfl ?_
    rw [show upd mi 1 (nI (cn + 1)) 1 = nI (cn + 1) from rfl]
    refine r_push (v := nI 1) d_X10_put_89 ?_
    refine r_isub d_X10_put_90 ?_
    rw [pk_sub (a := (cn + 1)) (b := 1) (by omega)]
    refine r_ireturn d_X10_put_91 ⟨_, rfl, rfl⟩ ?_
    exact ⟨rfl, rfl⟩
  · -- not taken at 6
    refine r_push d_X10_put_9 ?_
    refine r_ireturn d_X10_put_11 ⟨_, rfl, rfl⟩ ?_
    exact absurd ((nI_eq (a := cn) (b := 10) (by omega) (by decide)).mp (hf.symm.trans c6)) (by omega)
