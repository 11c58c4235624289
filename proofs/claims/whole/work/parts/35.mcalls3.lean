def sp_ls (k f : Nat) : List Int32 → Nat → Option Nat
  | [], n => some n
  | x :: xs, n => if 1 < n then (if sp_in x 1 (nI (n - 1)) then sp_ls k f xs (sp_left k f n x.toNatClampNeg) else none) else sp_ls k f xs n
theorem sp_ls_1 {k f n : Nat} {x : Int32} {xs : List Int32} (h : n ≤ 1) : sp_ls k f (x :: xs) n = sp_ls k f xs n := by rw [sp_ls, if_neg (by omega)]
theorem sp_ls_n {k f n : Nat} {x : Int32} {xs : List Int32} (h : 1 < n) (hx : sp_in x 1 (nI (n - 1)) = false) : sp_ls k f (x :: xs) n = none := by rw [sp_ls, if_pos h, if_neg (by rw [hx]; decide)]
theorem sp_ls_y {k f n : Nat} {x : Int32} {xs : List Int32} (h : 1 < n) (hx : sp_in x 1 (nI (n - 1)) = true) : sp_ls k f (x :: xs) n = sp_ls k f xs (sp_left k f n x.toNatClampNeg) := by rw [sp_ls, if_pos h, if_pos hx]
theorem sp_ls_0 {k f n : Nat} : sp_ls k f [] n = some n := by rw [sp_ls]
def sp_lr (k : Nat) (o : Option Nat) : Int32 ⊕ Nat := match o with
  | none => .inr 2
  | some m => .inl (nI (m / k))
def sp_line (o : Option sp_Cs) (a b c : Int32) : Int32 ⊕ Nat := match o with
  | none => .inl (-1)
  | some q => if sp_pk q.1 then sp_lr q.2.2.1 (sp_ls q.2.2.1 q.2.2.2.1 [a, b, c] q.2.1) else .inr 3
set_option maxRecDepth 10000 in
set_option maxHeartbeats 4000000 in
theorem st_X10_line {h : pm_H} {mi : Nat → Int32} {ml : Nat → Int64} {A : Nat → Nat → Int32} {B : Nat → Nat → Int64} {j k f lo hi : Nat} {x1 x2 x3 : Int32} (hc : j < 10) (hsk : m_sk A j k f lo hi) {F : Option Value → pm_H → Prop} {b : Nat × Nat} {t m : Nat} {x : Int32} {xs : List Int32} (hx : (t = 0 ∧ x = x1) ∨ (t = 1 ∧ x = x2) ∨ (t = 2 ∧ x = x3)) (hm : m ≤ 60) {o : Option Value} (KN : sp_ls k f (x :: xs) m = none → F (some (.int (-3))) (m_meet h mi ml A B 2)) (K : ∀ m' o', m' ≤ 60 → sp_ls k f (x :: xs) m = sp_ls k f xs m' → pm_V e_X10_line 35 [some (.ref 44), some (.int (nI j)), some (.int x1), some (.int x2), some (.int x3), some (.int (nI m')), some (.int (nI (t + 1))), o'] [] (pmM h mi ml A B) b F) : pm_V e_X10_line 35 [some (.ref 44), some (.int (nI j)), some (.int x1), some (.int x2), some (.int x3), some (.int (nI m)), some (.int (nI t)), o] [] (pmM h mi ml A B) b F := by
  have ht : t ≤ 2 := by omega
  have hsk0 := hsk
  obtain ⟨g3, g4, g5, g6, g7, g8, s1, s2, s3, s4⟩ := hsk
  have key : pm_V e_X10_line 64 [some (.ref 44), some (.int (nI j)), some (.int x1), some (.int x2), some (.int x3), some (.int (nI m)), some (.int (nI t)), some (.int x)] [] (pmM h mi ml A B) b F := by
    have hb := pm_bl_le (sp_in x 1 (nI (m - 1)))
    refine r_iload_5 d_X10_line_64 ?_
    refine r_push (v := nI 1) d_X10_line_66 ?_
    refine r_icmp_le d_X10_line_67 (fun c67 => ?_) (fun c67 => ?_)
    · -- taken at 67
      have c67 : m ≤ 1 := (nI_leI (a := m) (b := 1) (by omega) (by omega)).mp c67
      refine r_iinc_6 d_X10_line_100 (Nat.le_of_ble_eq_true rfl) (fun w hw => by cases hw <;> rfl) ?_
      rw [nI_1]
      refine r_goto d_X10_line_103 ?_
      first
      | exact K _ _ (by omega) ey
      | exact K _ _ hm (sp_ls_1 (by omega))
    · -- not taken at 67
      have c67 : ¬ m ≤ 1 := fun zz9 => c67 ((nI_leI (a := m) (b := 1) (by omega) (by omega)).mpr zz9)
      refine r_iload_7 d_X10_line_70 ?_
      refine r_push (v := nI 1) d_X10_line_72 ?_
      refine r_iload_5 d_X10_line_73 ?_
      refine r_push (v := nI 1) d_X10_line_75 ?_
      refine r_isub d_X10_line_76 ?_
      rw [pk_sub (a := m) (b := 1) (by omega)]
      refine r_S3 d_X10_line_77 c_X10_in ⟨rfl, rfl⟩ (Nat.le_of_ble_eq_true rfl) ?_
      refine r_if_ne d_X10_line_80 (fun c80 => ?_) (fun c80 => ?_)
      · -- taken at 80
        have c80 : ¬ (pm_bl (sp_in x 1 (nI (m - 1)))) = 0 := fun zz9 => c80 ((nI_eq (a := (pm_bl (sp_in x 1 (nI (m - 1))))) (b := 0) (by omega) (by omega)).mpr zz9)
        refine r_aload_0 d_X10_line_89 ?_
        refine r_iload_1 d_X10_line_90 ?_
        refine r_iload_5 d_X10_line_91 ?_
        refine r_iload_7 d_X10_line_93 ?_
        have hia := pm_bl1 c80
        have ey := sp_ls_y (k := k) (f := f) (xs := xs) (show 1 < m by omega) hia
        obtain ⟨u, hu1, hu2, rfl⟩ := sp_in_nat (lo := 1) (hi := m - 1) (by decide) (by omega) hia
        rw [nI_clamp (by omega)] at ey
        have hlt := sp_left_lt (k := k) (f := f) (n := m) (a := u) (by omega) (by omega) (by omega)
        refine r_V3 d_X10_line_95 (c_X10_left hc hsk0 hm ⟨by omega, by omega⟩) rfl rfl rfl ⟨rfl, rfl⟩ (Nat.le_of_ble_eq_true rfl) ?_
        refine r_istore_5 d_X10_line_98 (Nat.le_of_ble_eq_true rfl) (fun w hw => by cases hw <;> rfl) ?_
        refine r_iinc_6 d_X10_line_100 (Nat.le_of_ble_eq_true rfl) (fun w hw => by cases hw <;> rfl) ?_
        rw [nI_1]
        refine r_goto d_X10_line_103 ?_
        first
        | exact K _ _ (by omega) ey
        | exact K _ _ hm (sp_ls_1 (by omega))
      · -- not taken at 80
        have c80 : (pm_bl (sp_in x 1 (nI (m - 1)))) = 0 := (nI_eq (a := (pm_bl (sp_in x 1 (nI (m - 1))))) (b := 0) (by omega) (by omega)).mp c80
        refine r_aload_0 d_X10_line_83 ?_
        refine r_push (v := nI 2) d_X10_line_84 ?_
        refine r_V1 d_X10_line_85 (c_X10_meets (w := 2) (by decide)) rfl rfl rfl ⟨rfl, rfl⟩ (Nat.le_of_ble_eq_true rfl) ?_
        refine r_ireturn d_X10_line_88 ⟨_, rfl, rfl⟩ ?_
        exact KN (sp_ls_n (by omega) (pm_bl0.mp c80))
  rcases hx with ⟨rfl, rfl⟩ | ⟨rfl, rfl⟩ | ⟨rfl, rfl⟩
  ·
    refine r_iload_6 d_X10_line_35 ?_
    refine r_push (v := nI 3) d_X10_line_37 ?_
    refine r_icmp_ge d_X10_line_38 (fun c38 => absurd c38 (by decide)) (fun c38 => ?_)
    clear c38
    refine r_iload_6 d_X10_line_41 ?_
    refine r_if_ne d_X10_line_43 (fun c43 => absurd (by decide) c43) (fun c43 => ?_)
    clear c43
    refine r_iload_2 d_X10_line_46 ?_
    refine r_goto d_X10_line_47 ?_
    refine r_istore_7 d_X10_line_62 (Nat.le_of_ble_eq_true rfl) (fun w hw => by cases hw <;> rfl) ?_
    exact key
  ·
    refine r_iload_6 d_X10_line_35 ?_
    refine r_push (v := nI 3) d_X10_line_37 ?_
    refine r_icmp_ge d_X10_line_38 (fun c38 => absurd c38 (by decide)) (fun c38 => ?_)
    clear c38
    refine r_iload_6 d_X10_line_41 ?_
    refine r_if_ne d_X10_line_43 (fun c43 => ?_) (fun c43 => absurd c43 (by decide))
    clear c43
    refine r_iload_6 d_X10_line_50 ?_
    refine r_push (v := nI 1) d_X10_line_52 ?_
    refine r_icmp_ne d_X10_line_53 (fun c53 => absurd (by decide) c53) (fun c53 => ?_)
    clear c53
    refine r_iload_3 d_X10_line_56 ?_
    refine r_goto d_X10_line_57 ?_
    refine r_istore_7 d_X10_line_62 (Nat.le_of_ble_eq_true rfl) (fun w hw => by cases hw <;> rfl) ?_
    exact key
  ·
    refine r_iload_6 d_X10_line_35 ?_
    refine r_push (v := nI 3) d_X10_line_37 ?_
    refine r_icmp_ge d_X10_line_38 (fun c38 => absurd c38 (by decide)) (fun c38 => ?_)
    clear c38
    refine r_iload_6 d_X10_line_41 ?_
    refine r_if_ne d_X10_line_43 (fun c43 => ?_) (fun c43 => absurd c43 (by decide))
    clear c43
    refine r_iload_6 d_X10_line_50 ?_
    refine r_push (v := nI 1) d_X10_line_52 ?_
    refine r_icmp_ne d_X10_line_53 (fun c53 => ?_) (fun c53 => absurd c53 (by decide))
    clear c53
    refine r_iload_4 d_X10_line_60 ?_
    refine r_istore_7 d_X10_line_62 (Nat.le_of_ble_eq_true rfl) (fun w hw => by cases hw <;> rfl) ?_
    exact key
set_option maxRecDepth 10000 in
set_option maxHeartbeats 4000000 in
theorem c_X10_line {h : pm_H} {mi : Nat → Int32} {ml : Nat → Int64} {A : Nat → Nat → Int32} {B : Nat → Nat → Int64} {c : Int32} {cn : Nat} {C : Nat → sp_Cs} (hCC : m_CC mi A cn C) {x1 x2 x3 : Int32} : pm_Cv e_X10_line [.ref 44, .int c, .int x1, .int x2, .int x3] (pmM h mi ml A B) (.int (sp_ans (sp_line ((pm_ci c cn).map C) x1 x2 x3))) (m_fin h mi ml A B (sp_line ((pm_ci c cn).map C) x1 x2 x3)) := by
  obtain ⟨hcn, hn10, hC⟩ := hCC
  cases hci : pm_ci c cn with
  | none =>
    refine pm_enter rfl (Nat.le_of_ble_eq_true rfl) ?_
    show pm_V e_X10_line 0 [some (.ref 44), some (.int c), some (.int x1), some (.int x2), some (.int x3), none, none, none] [] (pmM h mi ml A B) (0, 0) _
    refine r_aload_0 d_X10_line_0 ?_
    refine r_iload_1 d_X10_line_1 ?_
    refine r_V1 d_X10_line_2 (c_X10_isCaster hcn hn10) rfl rfl rfl ⟨rfl, rfl⟩ (Nat.le_of_ble_eq_true rfl) ?_
    rw [hci]
    show pm_V _ _ _ (.int (nI 0) :: _) _ _ _
    refine r_if_ne d_X10_line_5 (fun c5 => absurd (by decide) c5) (fun c5 => ?_)
    clear c5
    refine r_push d_X10_line_8 ?_
    refine r_ireturn d_X10_line_9 ⟨_, rfl, rfl⟩ ?_
    exact ⟨rfl, rfl⟩
  | some j =>
    obtain ⟨hj, rfl⟩ := pm_ci_some (by omega) hci
    have hc : j < 10 := by omega
    have hs := hC j hj
    obtain ⟨hk, hkd⟩ := m_Cs_k hs
    have hss := m_Cs_s hs
    rw [show Option.map C (some j) = some (C j) from rfl]
    generalize hq9 : C j = q at hs hk hkd hss ⊢
    obtain ⟨kd, n, k, f, lo, hi⟩ := q
    dsimp only at hk hkd hss
    have hbk := pm_bl_le (sp_pk kd)
    have hr : sp_line (some (kd, n, k, f, lo, hi)) x1 x2 x3 = if sp_pk kd then sp_lr k (sp_ls k f [x1, x2, x3] n) else .inr 3 := rfl
    rw [hr]
    clear hr
    refine pm_enter rfl (Nat.le_of_ble_eq_true rfl) ?_
    show pm_V e_X10_line 0 [some (.ref 44), some (.int (nI j)), some (.int x1), some (.int x2), some (.int x3), none, none, none] [] (pmM h mi ml A B) (0, 0) _
    refine r_aload_0 d_X10_line_0 ?_
    refine r_iload_1 d_X10_line_1 ?_
    refine r_V1 d_X10_line_2 (c_X10_isCaster hcn hn10) rfl rfl rfl ⟨rfl, rfl⟩ (Nat.le_of_ble_eq_true rfl) ?_
    rw [hci]
    show pm_V _ _ _ (.int (nI 1) :: _) _ _ _
    refine r_if_ne d_X10_line_5 (fun c5 => ?_) (fun c5 => absurd c5 (by decide))
    clear c5
    refine r_aload_0 d_X10_line_10 ?_
    refine r_iload_1 d_X10_line_11 ?_
    refine r_V1 d_X10_line_12 (c_X10_parts hc hk hkd) rfl rfl rfl ⟨rfl, rfl⟩ (Nat.le_of_ble_eq_true rfl) ?_
    refine r_if_ne d_X10_line_15 (fun c15 => ?_) (fun c15 => ?_)
    · -- taken at 15
      have c15 : ¬ (pm_bl (sp_pk kd)) = 0 := fun zz9 => c15 ((nI_eq (a := (pm_bl (sp_pk kd))) (b := 0) (by omega) (by omega)).mpr zz9)
      rw [if_pos (pm_bl1 c15)]
      obtain ⟨hn4, hn60, hs47, hsk⟩ := hss (sp_pk_t (pm_bl1 c15))
      refine r_aload_0 d_X10_line_24 ?_
      refine r_get d_X10_line_25 s10_sticks rfl rfl ?_
      refine r_iload_1 d_X10_line_28 ?_
      refine r_iald d_X10_line_29 rfl (pm_ixN hc (by decide)) ?_
      rw [hs47]
      refine r_istore_5 d_X10_line_30 (Nat.le_of_ble_eq_true rfl) (fun w hw => by cases hw <;> rfl) ?_
      refine r_push (v := nI 0) d_X10_line_32 ?_
      refine r_istore_6 d_X10_line_33 (Nat.le_of_ble_eq_true rfl) (fun w hw => by cases hw <;> rfl) ?_
      have hsk0 := hsk
      obtain ⟨g3, g4, g5, g6, g7, g8, s1, s2, s3, s4⟩ := hsk
      refine st_X10_line (t := 0) (xs := [x2, x3]) hc hsk0 (Or.inl ⟨rfl, rfl⟩) hn60 (fun hz => by rw [hz]; exact ⟨rfl, rfl⟩) (fun m1 o1 hm1 hz1 => ?_)
      rw [hz1]
      refine st_X10_line (t := 1) (xs := [x3]) hc hsk0 (Or.inr (Or.inl ⟨rfl, rfl⟩)) hm1 (fun hz => by rw [hz]; exact ⟨rfl, rfl⟩) (fun m2 o2 hm2 hz2 => ?_)
      rw [hz2]
      refine st_X10_line (t := 2) (xs := []) hc hsk0 (Or.inr (Or.inr ⟨rfl, rfl⟩)) hm2 (fun hz => by rw [hz]; exact ⟨rfl, rfl⟩) (fun m3 o3 hm3 hz3 => ?_)
      rw [hz3, sp_ls_0]
      refine r_iload_6 d_X10_line_35 ?_
      refine r_push (v := nI 3) d_X10_line_37 ?_
      refine r_icmp_ge d_X10_line_38 (fun c38 => ?_) (fun c38 => absurd (by decide) c38)
      clear c38
      refine r_iload_5 d_X10_line_106 ?_
      refine r_aload_0 d_X10_line_108 ?_
      refine r_get d_X10_line_109 s10_counts rfl rfl ?_
      refine r_iload_1 d_X10_line_112 ?_
      refine r_iald d_X10_line_113 rfl (pm_ixN hc (by decide)) ?_
      rw [s1]
      refine r_idiv d_X10_line_114 (nI_ne0 (n := k) (by omega) (by omega)) ?_
      rw [pk_div (a := m3) (d := k) (by omega) (by omega) (by omega)]
      refine r_ireturn d_X10_line_115 ⟨_, rfl, rfl⟩ ?_
      exact ⟨rfl, rfl⟩
    · -- not taken at 15
      have c15 : (pm_bl (sp_pk kd)) = 0 := (nI_eq (a := (pm_bl (sp_pk kd))) (b := 0) (by omega) (by omega)).mp c15
      rw [if_neg (by rw [pm_bl0.mp c15]; decide)]
      refine r_aload_0 d_X10_line_18 ?_
      refine r_push (v := nI 3) d_X10_line_19 ?_
      refine r_V1 d_X10_line_20 (c_X10_meets (w := 3) (by decide)) rfl rfl rfl ⟨rfl, rfl⟩ (Nat.le_of_ble_eq_true rfl) ?_
      refine r_ireturn d_X10_line_23 ⟨_, rfl, rfl⟩ ?_
      exact ⟨rfl, rfl⟩
set_option maxRecDepth 10000 in
set_option maxHeartbeats 4000000 in
theorem c_X10_drawn_n {h : pm_H} {mi : Nat → Int32} {ml : Nat → Int64} {A : Nat → Nat → Int32} {B : Nat → Nat → Int64} {c : Int32} {cn : Nat} {C : Nat → sp_Cs} (hCC : m_CC mi A cn C) {s : Int64} (hci : pm_ci c cn = none) : pm_Cv e_X10_drawn [.ref 44, .int c, .long s] (pmM h mi ml A B) (.int (-1)) (pmM h mi ml A B) := by
  obtain ⟨hcn, hn10, hC⟩ := hCC
  refine pm_enter rfl (Nat.le_of_ble_eq_true rfl) ?_
  show pm_V e_X10_drawn 0 [some (.ref 44), some (.int c), some (.long s), none] [] (pmM h mi ml A B) (0, 0) _
  refine r_aload_0 d_X10_drawn_0 ?_
  refine r_iload_1 d_X10_drawn_1 ?_
  refine r_V1 d_X10_drawn_2 (c_X10_isCaster hcn hn10) rfl rfl rfl ⟨rfl, rfl⟩ (Nat.le_of_ble_eq_true rfl) ?_
  rw [hci]
  show pm_V _ _ _ (.int (nI 0) :: _) _ _ _
  refine r_if_ne d_X10_drawn_5 (fun c5 => absurd (by decide) c5) (fun c5 => ?_)
  clear c5
  refine r_push d_X10_drawn_8 ?_
  refine r_ireturn d_X10_drawn_9 ⟨_, rfl, rfl⟩ ?_
  exact ⟨rfl, rfl⟩
set_option maxRecDepth 10000 in
set_option maxHeartbeats 4000000 in
theorem c_X10_drawn {h : pm_H} {mi : Nat → Int32} {ml : Nat → Int64} {A : Nat → Nat → Int32} {B : Nat → Nat → Int64} {cn j : Nat} {C : Nat → sp_Cs} (hCC : m_CC mi A cn C) {s : Int64} (hj : j < cn) : pm_Cv e_X10_drawn [.ref 44, .int (nI j), .long s] (pmM h mi ml A B) (.int (nI (sp_draw (C j).1 (C j).2.1 (C j).2.2.1 (C j).2.2.2.1 (C j).2.2.2.2.1 (C j).2.2.2.2.2 s).1)) (pmM h mi (vp_updL ml 5 (sp_draw (C j).1 (C j).2.1 (C j).2.2.1 (C j).2.2.2.1 (C j).2.2.2.2.1 (C j).2.2.2.2.2 s).2) A B) := by
  obtain ⟨hcn, hn10, hC⟩ := hCC
  have hci := pm_ci_of (cn := cn) hj (by omega)
  refine pm_enter rfl (Nat.le_of_ble_eq_true rfl) ?_
  show pm_V e_X10_drawn 0 [some (.ref 44), some (.int (nI j)), some (.long s), none] [] (pmM h mi ml A B) (0, 0) _
  refine r_aload_0 d_X10_drawn_0 ?_
  refine r_iload_1 d_X10_drawn_1 ?_
  refine r_V1 d_X10_drawn_2 (c_X10_isCaster hcn hn10) rfl rfl rfl ⟨rfl, rfl⟩ (Nat.le_of_ble_eq_true rfl) ?_
  rw [hci]
  show pm_V _ _ _ (.int (nI 1) :: _) _ _ _
  refine r_if_ne d_X10_drawn_5 (fun c5 => ?_) (fun c5 => absurd c5 (by decide))
  clear c5
  refine r_aload_0 d_X10_drawn_10 ?_
  refine r_lload_2 d_X10_drawn_11 ?_
  refine r_put d_X10_drawn_12 s10_seed rfl (Nat.le_of_ble_eq_true rfl) ⟨rfl, rfl⟩ ?_
  rw [pmM_seed]
  refine r_aload_0 d_X10_drawn_15 ?_
  refine r_iload_1 d_X10_drawn_16 ?_
  refine r_V1 d_X10_drawn_17 (c_X10_draws (by omega) (hC j hj)) rfl rfl rfl ⟨rfl, rfl⟩ (Nat.le_of_ble_eq_true rfl) ?_
  rw [pm_luu, show vp_updL ml 5 s 5 = s from rfl]
  refine r_ireturn d_X10_drawn_20 ⟨_, rfl, rfl⟩ ?_
  exact ⟨rfl, rfl⟩
def m_pA (A : Nat → Nat → Int32) (cn : Nat) (a1 a2 a3 a4 a5 a6 : Int32) : Nat → Nat → Int32 := va_up (va_up (va_up (va_up (va_up (va_up A 46 (upd (A 46) cn a1)) 47 (upd (A 47) cn a2)) 48 (upd (A 48) cn a3)) 49 (upd (A 49) cn (vp_nar .boolean a4))) 50 (upd (A 50) cn a5)) 51 (upd (A 51) cn a6)
set_option maxRecDepth 10000 in
set_option maxHeartbeats 4000000 in
theorem c_X10_caster_full0 {h : pm_H} {mi : Nat → Int32} {ml : Nat → Int64} {A : Nat → Nat → Int32} {B : Nat → Nat → Int64} (hf : mi 1 = nI 10) : pm_Cv e_X10_caster [.ref 44, .int (nI 0)] (pmM h mi ml A B) (.int (-2)) (pmM h mi ml A B) := by
  refine pm_enter rfl (Nat.le_of_ble_eq_true rfl) ?_
  show pm_V e_X10_caster 0 [some (.ref 44), some (.int (nI 0))] [] (pmM h mi ml A B) (0, 0) _
  refine r_aload_0 d_X10_caster_0 ?_
  refine r_iload_1 d_X10_caster_1 ?_
  refine r_if_eq d_X10_caster_2 (fun c2 => ?_) (fun c2 => absurd (by decide) c2)
  clear c2
  refine r_push d_X10_caster_9 ?_
  refine r_push d_X10_caster_10 ?_
  refine r_push d_X10_caster_12 ?_
  refine r_push d_X10_caster_14 ?_
  refine r_push d_X10_caster_15 ?_
  refine r_push d_X10_caster_16 ?_
  refine r_V6 d_X10_caster_18 (c_X10_put_full hf) rfl rfl rfl ⟨rfl, rfl⟩ (Nat.le_of_ble_eq_true rfl) ?_
  refine r_ireturn d_X10_caster_21 ⟨_, rfl, rfl⟩ ?_
  exact ⟨rfl, rfl⟩
set_option maxRecDepth 10000 in
set_option maxHeartbeats 4000000 in
theorem c_X10_caster_full1 {h : pm_H} {mi : Nat → Int32} {ml : Nat → Int64} {A : Nat → Nat → Int32} {B : Nat → Nat → Int64} (hf : mi 1 = nI 10) : pm_Cv e_X10_caster [.ref 44, .int (nI 1)] (pmM h mi ml A B) (.int (-2)) (pmM h mi ml A B) := by
  refine pm_enter rfl (Nat.le_of_ble_eq_true rfl) ?_
  show pm_V e_X10_caster 0 [some (.ref 44), some (.int (nI 1))] [] (pmM h mi ml A B) (0, 0) _
  refine r_aload_0 d_X10_caster_0 ?_
  refine r_iload_1 d_X10_caster_1 ?_
  refine r_if_eq d_X10_caster_2 (fun c2 => absurd c2 (by decide)) (fun c2 => ?_)
  clear c2
  refine r_push d_X10_caster_5 ?_
  refine r_goto d_X10_caster_6 ?_
  refine r_push d_X10_caster_10 ?_
  refine r_push d_X10_caster_12 ?_
  refine r_push d_X10_caster_14 ?_
  refine r_push d_X10_caster_15 ?_
  refine r_push d_X10_caster_16 ?_
  refine r_V6 d_X10_caster_18 (c_X10_put_full hf) rfl rfl rfl ⟨rfl, rfl⟩ (Nat.le_of_ble_eq_true rfl) ?_
  refine r_ireturn d_X10_caster_21 ⟨_, rfl, rfl⟩ ?_
  exact ⟨rfl, rfl⟩
set_option maxRecDepth 10000 in
set_option maxHeartbeats 4000000 in
theorem c_X10_stalks_full {h : pm_H} {mi : Nat → Int32} {ml : Nat → Int64} {A : Nat → Nat → Int32} {B : Nat → Nat → Int64} (hf : mi 1 = nI 10) {n k fg : Int32} (hv : (sp_in n 4 60 && sp_in k 2 8) = true) : pm_Cv e_X10_stalks [.ref 44, .int n, .int k, .int fg] (pmM h mi ml A B) (.int (-2)) (pmM h mi ml A B) := by
  refine pm_enter rfl (Nat.le_of_ble_eq_true rfl) ?_
  show pm_V e_X10_stalks 0 [some (.ref 44), some (.int n), some (.int k), some (.int fg)] [] (pmM h mi ml A B) (0, 0) _
  refine r_iload_1 d_X10_stalks_0 ?_
  refine r_iload_2 d_X10_stalks_1 ?_
  refine r_S2 d_X10_stalks_2 c_X10_areStalks ⟨rfl, rfl⟩ (Nat.le_of_ble_eq_true rfl) ?_
  rw [hv]
  show pm_V _ _ _ (.int (nI 1) :: _) _ _ _
  refine r_if_eq d_X10_stalks_5 (fun c5 => absurd c5 (by decide)) (fun c5 => ?_)
  clear c5
  refine r_aload_0 d_X10_stalks_8 ?_
  refine r_push d_X10_stalks_9 ?_
  refine r_iload_1 d_X10_stalks_10 ?_
  refine r_iload_2 d_X10_stalks_11 ?_
  refine r_iload_3 d_X10_stalks_12 ?_
  refine r_push d_X10_stalks_13 ?_
  refine r_push d_X10_stalks_14 ?_
  refine r_V6 d_X10_stalks_16 (c_X10_put_full hf) rfl rfl rfl ⟨rfl, rfl⟩ (Nat.le_of_ble_eq_true rfl) ?_
  refine r_goto d_X10_stalks_19 ?_
  refine r_ireturn d_X10_stalks_23 ⟨_, rfl, rfl⟩ ?_
  exact ⟨rfl, rfl⟩
set_option maxRecDepth 10000 in
set_option maxHeartbeats 4000000 in
theorem c_X10_thumb_full {h : pm_H} {mi : Nat → Int32} {ml : Nat → Int64} {A : Nat → Nat → Int32} {B : Nat → Nat → Int64} (hf : mi 1 = nI 10) {n k fg lo hi : Int32} (hv : (sp_in n 4 60 && sp_in k 2 8) = true) (hv2 : sp_in lo 1 59 = true) (hv3 : sp_in hi lo 59 = true) : pm_Cv e_X10_thumb [.ref 44, .int n, .int k, .int fg, .int lo, .int hi] (pmM h mi ml A B) (.int (-2)) (pmM h mi ml A B) := by
  refine pm_enter rfl (Nat.le_of_ble_eq_true rfl) ?_
  show pm_V e_X10_thumb 0 [some (.ref 44), some (.int n), some (.int k), some (.int fg), some (.int lo), some (.int hi)] [] (pmM h mi ml A B) (0, 0) _
  refine r_iload_1 d_X10_thumb_0 ?_
  refine r_iload_2 d_X10_thumb_1 ?_
  refine r_S2 d_X10_thumb_2 c_X10_areStalks ⟨rfl, rfl⟩ (Nat.le_of_ble_eq_true rfl) ?_
  rw [hv]
  show pm_V _ _ _ (.int (nI 1) :: _) _ _ _
  refine r_if_eq d_X10_thumb_5 (fun c5 => absurd c5 (by decide)) (fun c5 => ?_)
  clear c5
  refine r_iload_4 d_X10_thumb_8 ?_
  refine r_push d_X10_thumb_10 ?_
  refine r_push d_X10_thumb_11 ?_
  refine r_S3 d_X10_thumb_13 c_X10_in ⟨rfl, rfl⟩ (Nat.le_of_ble_eq_true rfl) ?_
  rw [hv2]
  show pm_V _ _ _ (.int (nI 1) :: _) _ _ _
  refine r_if_eq d_X10_thumb_16 (fun c16 => absurd c16 (by decide)) (fun c16 => ?_)
  clear c16
  refine r_iload_5 d_X10_thumb_19 ?_
  refine r_iload_4 d_X10_thumb_21 ?_
  refine r_push d_X10_thumb_23 ?_
  refine r_S3 d_X10_thumb_25 c_X10_in ⟨rfl, rfl⟩ (Nat.le_of_ble_eq_true rfl) ?_
  rw [hv3]
  show pm_V _ _ _ (.int (nI 1) :: _) _ _ _
  refine r_if_eq d_X10_thumb_28 (fun c28 => absurd c28 (by decide)) (fun c28 => ?_)
  clear c28
  refine r_aload_0 d_X10_thumb_31 ?_
  refine r_push d_X10_thumb_32 ?_
  refine r_iload_1 d_X10_thumb_33 ?_
  refine r_iload_2 d_X10_thumb_34 ?_
  refine r_iload_3 d_X10_thumb_35 ?_
  refine r_iload_4 d_X10_thumb_36 ?_
  refine r_iload_5 d_X10_thumb_38 ?_
  refine r_V6 d_X10_thumb_40 (c_X10_put_full hf) rfl rfl rfl ⟨rfl, rfl⟩ (Nat.le_of_ble_eq_true rfl) ?_
  refine r_goto d_X10_thumb_43 ?_
  refine r_ireturn d_X10_thumb_47 ⟨_, rfl, rfl⟩ ?_
  exact ⟨rfl, rfl⟩
set_option maxRecDepth 10000 in
set_option maxHeartbeats 4000000 in
theorem c_X10_caster0 {h : pm_H} {mi : Nat → Int32} {ml : Nat → Int64} {A : Nat → Nat → Int32} {B : Nat → Nat → Int64} {cn : Nat} (hf : mi 1 = nI cn) (hn : cn < 10) : pm_Cv e_X10_caster [.ref 44, .int (nI 0)] (pmM h mi ml A B) (.int (nI cn)) (pmM h (upd mi 1 (nI (cn + 1))) ml (m_pA A cn 0 (-9) (-9) 0 1 59) B) := by
  refine pm_enter rfl (Nat.le_of_ble_eq_true rfl) ?_
  show pm_V e_X10_caster 0 [some (.ref 44), some (.int (nI 0))] [] (pmM h mi ml A B) (0, 0) _
  refine r_aload_0 d_X10_caster_0 ?_
  refine r_iload_1 d_X10_caster_1 ?_
  refine r_if_eq d_X10_caster_2 (fun c2 => ?_) (fun c2 => absurd (by decide) c2)
  clear c2
  refine r_push d_X10_caster_9 ?_
  refine r_push d_X10_caster_10 ?_
  refine r_push d_X10_caster_12 ?_
  refine r_push d_X10_caster_14 ?_
  refine r_push d_X10_caster_15 ?_
  refine r_push d_X10_caster_16 ?_
  refine r_V6 d_X10_caster_18 (c_X10_put hf hn) rfl rfl rfl ⟨rfl, rfl⟩ (Nat.le_of_ble_eq_true rfl) ?_
  refine r_ireturn d_X10_caster_21 ⟨_, rfl, rfl⟩ ?_
  exact ⟨rfl, rfl⟩
set_option maxRecDepth 10000 in
set_option maxHeartbeats 4000000 in
theorem c_X10_caster1 {h : pm_H} {mi : Nat → Int32} {ml : Nat → Int64} {A : Nat → Nat → Int32} {B : Nat → Nat → Int64} {cn : Nat} (hf : mi 1 = nI cn) (hn : cn < 10) : pm_Cv e_X10_caster [.ref 44, .int (nI 1)] (pmM h mi ml A B) (.int (nI cn)) (pmM h (upd mi 1 (nI (cn + 1))) ml (m_pA A cn 2 (-9) (-9) 0 1 59) B) := by
  refine pm_enter rfl (Nat.le_of_ble_eq_true rfl) ?_
  show pm_V e_X10_caster 0 [some (.ref 44), some (.int (nI 1))] [] (pmM h mi ml A B) (0, 0) _
  refine r_aload_0 d_X10_caster_0 ?_
  refine r_iload_1 d_X10_caster_1 ?_
  refine r_if_eq d_X10_caster_2 (fun c2 => absurd c2 (by decide)) (fun c2 => ?_)
  clear c2
  refine r_push d_X10_caster_5 ?_
  refine r_goto d_X10_caster_6 ?_
  refine r_push d_X10_caster_10 ?_
  refine r_push d_X10_caster_12 ?_
  refine r_push d_X10_caster_14 ?_
  refine r_push d_X10_caster_15 ?_
  refine r_push d_X10_caster_16 ?_
  refine r_V6 d_X10_caster_18 (c_X10_put hf hn) rfl rfl rfl ⟨rfl, rfl⟩ (Nat.le_of_ble_eq_true rfl) ?_
  refine r_ireturn d_X10_caster_21 ⟨_, rfl, rfl⟩ ?_
  exact ⟨rfl, rfl⟩
set_option maxRecDepth 10000 in
set_option maxHeartbeats 4000000 in
theorem c_X10_stalks {h : pm_H} {mi : Nat → Int32} {ml : Nat → Int64} {A : Nat → Nat → Int32} {B : Nat → Nat → Int64} {cn : Nat} (hf : mi 1 = nI cn) (hn : cn < 10) {n k fg : Int32} (hv : (sp_in n 4 60 && sp_in k 2 8) = true) : pm_Cv e_X10_stalks [.ref 44, .int n, .int k, .int fg] (pmM h mi ml A B) (.int (nI cn)) (pmM h (upd mi 1 (nI (cn + 1))) ml (m_pA A cn 1 n k fg 1 59) B) := by
  refine pm_enter rfl (Nat.le_of_ble_eq_true rfl) ?_
  show pm_V e_X10_stalks 0 [some (.ref 44), some (.int n), some (.int k), some (.int fg)] [] (pmM h mi ml A B) (0, 0) _
  refine r_iload_1 d_X10_stalks_0 ?_
  refine r_iload_2 d_X10_stalks_1 ?_
  refine r_S2 d_X10_stalks_2 c_X10_areStalks ⟨rfl, rfl⟩ (Nat.le_of_ble_eq_true rfl) ?_
  rw [hv]
  show pm_V _ _ _ (.int (nI 1) :: _) _ _ _
  refine r_if_eq d_X10_stalks_5 (fun c5 => absurd c5 (by decide)) (fun c5 => ?_)
  clear c5
  refine r_aload_0 d_X10_stalks_8 ?_
  refine r_push d_X10_stalks_9 ?_
  refine r_iload_1 d_X10_stalks_10 ?_
  refine r_iload_2 d_X10_stalks_11 ?_
  refine r_iload_3 d_X10_stalks_12 ?_
  refine r_push d_X10_stalks_13 ?_
  refine r_push d_X10_stalks_14 ?_
  refine r_V6 d_X10_stalks_16 (c_X10_put hf hn) rfl rfl rfl ⟨rfl, rfl⟩ (Nat.le_of_ble_eq_true rfl) ?_
  refine r_goto d_X10_stalks_19 ?_
  refine r_ireturn d_X10_stalks_23 ⟨_, rfl, rfl⟩ ?_
  exact ⟨rfl, rfl⟩
set_option maxRecDepth 10000 in
set_option maxHeartbeats 4000000 in
theorem c_X10_thumb {h : pm_H} {mi : Nat → Int32} {ml : Nat → Int64} {A : Nat → Nat → Int32} {B : Nat → Nat → Int64} {cn : Nat} (hf : mi 1 = nI cn) (hn : cn < 10) {n k fg lo hi : Int32} (hv : (sp_in n 4 60 && sp_in k 2 8) = true) (hv2 : sp_in lo 1 59 = true) (hv3 : sp_in hi lo 59 = true) : pm_Cv e_X10_thumb [.ref 44, .int n, .int k, .int fg, .int lo, .int hi] (pmM h mi ml A B) (.int (nI cn)) (pmM h (upd mi 1 (nI (cn + 1))) ml (m_pA A cn 3 n k fg lo hi) B) := by
  refine pm_enter rfl (Nat.le_of_ble_eq_true rfl) ?_
  show pm_V e_X10_thumb 0 [some (.ref 44), some (.int n), some (.int k), some (.int fg), some (.int lo), some (.int hi)] [] (pmM h mi ml A B) (0, 0) _
  refine r_iload_1 d_X10_thumb_0 ?_
  refine r_iload_2 d_X10_thumb_1 ?_
  refine r_S2 d_X10_thumb_2 c_X10_areStalks ⟨rfl, rfl⟩ (Nat.le_of_ble_eq_true rfl) ?_
  rw [hv]
  show pm_V _ _ _ (.int (nI 1) :: _) _ _ _
  refine r_if_eq d_X10_thumb_5 (fun c5 => absurd c5 (by decide)) (fun c5 => ?_)
  clear c5
  refine r_iload_4 d_X10_thumb_8 ?_
  refine r_push d_X10_thumb_10 ?_
  refine r_push d_X10_thumb_11 ?_
  refine r_S3 d_X10_thumb_13 c_X10_in ⟨rfl, rfl⟩ (Nat.le_of_ble_eq_true rfl) ?_
  rw [hv2]
  show pm_V _ _ _ (.int (nI 1) :: _) _ _ _
  refine r_if_eq d_X10_thumb_16 (fun c16 => absurd c16 (by decide)) (fun c16 => ?_)
  clear c16
  refine r_iload_5 d_X10_thumb_19 ?_
  refine r_iload_4 d_X10_thumb_21 ?_
  refine r_push d_X10_thumb_23 ?_
  refine r_S3 d_X10_thumb_25 c_X10_in ⟨rfl, rfl⟩ (Nat.le_of_ble_eq_true rfl) ?_
  rw [hv3]
  show pm_V _ _ _ (.int (nI 1) :: _) _ _ _
  refine r_if_eq d_X10_thumb_28 (fun c28 => absurd c28 (by decide)) (fun c28 => ?_)
  clear c28
  refine r_aload_0 d_X10_thumb_31 ?_
  refine r_push d_X10_thumb_32 ?_
  refine r_iload_1 d_X10_thumb_33 ?_
  refine r_iload_2 d_X10_thumb_34 ?_
  refine r_iload_3 d_X10_thumb_35 ?_
  refine r_iload_4 d_X10_thumb_36 ?_
  refine r_iload_5 d_X10_thumb_38 ?_
  refine r_V6 d_X10_thumb_40 (c_X10_put hf hn) rfl rfl rfl ⟨rfl, rfl⟩ (Nat.le_of_ble_eq_true rfl) ?_
  refine r_goto d_X10_thumb_43 ?_
  refine r_ireturn d_X10_thumb_47 ⟨_, rfl, rfl⟩ ?_
  exact ⟨rfl, rfl⟩
set_option maxRecDepth 10000 in
set_option maxHeartbeats 4000000 in
theorem c_X10_stalks_bad {h : pm_H} {mi : Nat → Int32} {ml : Nat → Int64} {A : Nat → Nat → Int32} {B : Nat → Nat → Int64} {n k fg : Int32} (hv : (sp_in n 4 60 && sp_in k 2 8) = false) : pm_Cv e_X10_stalks [.ref 44, .int n, .int k, .int fg] (pmM h mi ml A B) (.int (-1)) (pmM h mi ml A B) := by
  refine pm_enter rfl (Nat.le_of_ble_eq_true rfl) ?_
  show pm_V e_X10_stalks 0 [some (.ref 44), some (.int n), some (.int k), some (.int fg)] [] (pmM h mi ml A B) (0, 0) _
  refine r_iload_1 d_X10_stalks_0 ?_
  refine r_iload_2 d_X10_stalks_1 ?_
  refine r_S2 d_X10_stalks_2 c_X10_areStalks ⟨rfl, rfl⟩ (Nat.le_of_ble_eq_true rfl) ?_
  rw [hv]
  show pm_V _ _ _ (.int (nI 0) :: _) _ _ _
  refine r_if_eq d_X10_stalks_5 (fun c5 => ?_) (fun c5 => absurd (by decide) c5)
  clear c5
  refine r_push d_X10_stalks_22 ?_
  refine r_ireturn d_X10_stalks_23 ⟨_, rfl, rfl⟩ ?_
  exact ⟨rfl, rfl⟩
set_option maxRecDepth 10000 in
set_option maxHeartbeats 4000000 in
theorem c_X10_thumb_bad {h : pm_H} {mi : Nat → Int32} {ml : Nat → Int64} {A : Nat → Nat → Int32} {B : Nat → Nat → Int64} {n k fg lo hi : Int32} (hv : ((sp_in n 4 60 && sp_in k 2 8) && (sp_in lo 1 59 && sp_in hi lo 59)) = false) : pm_Cv e_X10_thumb [.ref 44, .int n, .int k, .int fg, .int lo, .int hi] (pmM h mi ml A B) (.int (-1)) (pmM h mi ml A B) := by
  cases hv1 : (sp_in n 4 60 && sp_in k 2 8) with
  | false =>
    refine pm_enter rfl (Nat.le_of_ble_eq_true rfl) ?_
    show pm_V e_X10_thumb 0 [some (.ref 44), some (.int n), some (.int k), some (.int fg), some (.int lo), some (.int hi)] [] (pmM h mi ml A B) (0, 0) _
    refine r_iload_1 d_X10_thumb_0 ?_
    refine r_iload_2 d_X10_thumb_1 ?_
    refine r_S2 d_X10_thumb_2 c_X10_areStalks ⟨rfl, rfl⟩ (Nat.le_of_ble_eq_true rfl) ?_
    rw [hv1]
    show pm_V _ _ _ (.int (nI 0) :: _) _ _ _
    refine r_if_eq d_X10_thumb_5 (fun c5 => ?_) (fun c5 => absurd (by decide) c5)
    clear c5
    refine r_push d_X10_thumb_46 ?_
    refine r_ireturn d_X10_thumb_47 ⟨_, rfl, rfl⟩ ?_
    exact ⟨rfl, rfl⟩
  | true =>
    cases hv2 : sp_in lo 1 59 with
    | false =>
      refine pm_enter rfl (Nat.le_of_ble_eq_true rfl) ?_
      show pm_V e_X10_thumb 0 [some (.ref 44), some (.int n), some (.int k), some (.int fg), some (.int lo), some (.int hi)] [] (pmM h mi ml A B) (0, 0) _
      refine r_iload_1 d_X10_thumb_0 ?_
      refine r_iload_2 d_X10_thumb_1 ?_
      refine r_S2 d_X10_thumb_2 c_X10_areStalks ⟨rfl, rfl⟩ (Nat.le_of_ble_eq_true rfl) ?_
      rw [hv1]
      show pm_V _ _ _ (.int (nI 1) :: _) _ _ _
      refine r_if_eq d_X10_thumb_5 (fun c5 => absurd c5 (by decide)) (fun c5 => ?_)
      clear c5
      refine r_iload_4 d_X10_thumb_8 ?_
      refine r_push d_X10_thumb_10 ?_
      refine r_push d_X10_thumb_11 ?_
      refine r_S3 d_X10_thumb_13 c_X10_in ⟨rfl, rfl⟩ (Nat.le_of_ble_eq_true rfl) ?_
      rw [hv2]
      show pm_V _ _ _ (.int (nI 0) :: _) _ _ _
      refine r_if_eq d_X10_thumb_16 (fun c16 => ?_) (fun c16 => absurd (by decide) c16)
      clear c16
      refine r_push d_X10_thumb_46 ?_
      refine r_ireturn d_X10_thumb_47 ⟨_, rfl, rfl⟩ ?_
      exact ⟨rfl, rfl⟩
    | true =>
      have hv3 : sp_in hi lo 59 = false := by rw [hv1, hv2] at hv; simpa using hv
      refine pm_enter rfl (Nat.le_of_ble_eq_true rfl) ?_
      show pm_V e_X10_thumb 0 [some (.ref 44), some (.int n), some (.int k), some (.int fg), some (.int lo), some (.int hi)] [] (pmM h mi ml A B) (0, 0) _
      refine r_iload_1 d_X10_thumb_0 ?_
      refine r_iload_2 d_X10_thumb_1 ?_
      refine r_S2 d_X10_thumb_2 c_X10_areStalks ⟨rfl, rfl⟩ (Nat.le_of_ble_eq_true rfl) ?_
      rw [hv1]
      show pm_V _ _ _ (.int (nI 1) :: _) _ _ _
      refine r_if_eq d_X10_thumb_5 (fun c5 => absurd c5 (by decide)) (fun c5 => ?_)
      clear c5
      refine r_iload_4 d_X10_thumb_8 ?_
      refine r_push d_X10_thumb_10 ?_
      refine r_push d_X10_thumb_11 ?_
      refine r_S3 d_X10_thumb_13 c_X10_in ⟨rfl, rfl⟩ (Nat.le_of_ble_eq_true rfl) ?_
      rw [hv2]
      show pm_V _ _ _ (.int (nI 1) :: _) _ _ _
      refine r_if_eq d_X10_thumb_16 (fun c16 => absurd c16 (by decide)) (fun c16 => ?_)
      clear c16
      refine r_iload_5 d_X10_thumb_19 ?_
      refine r_iload_4 d_X10_thumb_21 ?_
      refine r_push d_X10_thumb_23 ?_
      refine r_S3 d_X10_thumb_25 c_X10_in ⟨rfl, rfl⟩ (Nat.le_of_ble_eq_true rfl) ?_
      rw [hv3]
      show pm_V _ _ _ (.int (nI 0) :: _) _ _ _
      refine r_if_eq d_X10_thumb_28 (fun c28 => ?_) (fun c28 => absurd (by decide) c28)
      clear c28
      refine r_push d_X10_thumb_46 ?_
      refine r_ireturn d_X10_thumb_47 ⟨_, rfl, rfl⟩ ?_
      exact ⟨rfl, rfl⟩
