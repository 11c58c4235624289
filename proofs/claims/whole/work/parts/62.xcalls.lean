theorem sp_pd_b {k f : Nat} {x : Int32} (hk : 2 ≤ k) : ∀ (o : Option Nat), (∀ m, o = some m → m ≤ 60) → bI o ≤ 60 ∧ sp_pd k f (bI o) x = bI (o.bind (fun n => sp_ls k f [x] n)) ∧ ∀ m, (o.bind (fun n => sp_ls k f [x] n)) = some m → m ≤ 60
  | none, _ => ⟨by decide, rfl, fun m hm => by cases hm⟩
  | some n, ho => by
    have hn := ho n rfl
    have h60 : nI n ≤ 60 := (nI_leI (a := n) (b := 60) (by omega) (by omega)).mpr hn
    have h2 : nI n < 2 ↔ n < 2 := nI_ltI (a := n) (b := 2) (by omega) (by omega)
    refine ⟨h60, ?_, ?_⟩
    · show sp_pd k f (nI n) x = bI (sp_ls k f [x] n)
      unfold sp_pd
      by_cases e : n < 2
      · rw [if_pos (h2.mpr e), sp_ls_1 (by omega), sp_ls_0]; rfl
      · rw [if_neg (fun z => e (h2.mp z))]
        have hx : (1 ≤ x ∧ x < nI n) ↔ sp_in x 1 (nI (n - 1)) = true := by
          have e1 : (nI n).toInt = (n : Int) := nI_toInt (by omega)
          have e2 : (nI (n - 1)).toInt = ((n - 1 : Nat) : Int) := nI_toInt (by omega)
          constructor
          · intro z
            refine decide_eq_true ⟨z.1, ?_⟩
            have z2 := z.2
            rw [Int32.lt_iff_toInt_lt, e1] at z2
            rw [Int32.le_iff_toInt_le, e2]; omega
          · intro z
            have z := of_decide_eq_true z
            refine ⟨z.1, ?_⟩
            have z2 := z.2
            rw [Int32.le_iff_toInt_le, e2] at z2
            rw [Int32.lt_iff_toInt_lt, e1]; omega
        by_cases e3 : sp_in x 1 (nI (n - 1)) = true
        · rw [if_pos (hx.mpr e3), sp_ls_y (by omega) e3, sp_ls_0, nI_clamp (by omega)]; rfl
        · rw [if_neg (fun z => e3 (hx.mp z)), sp_ls_n (by omega) (by simpa using e3)]; rfl
    · intro m hm
      have hm : sp_ls k f [x] n = some m := hm
      by_cases e : n < 2
      · rw [sp_ls_1 (by omega), sp_ls_0] at hm
        cases hm; exact hn
      · by_cases e3 : sp_in x 1 (nI (n - 1)) = true
        · rw [sp_ls_y (by omega) e3, sp_ls_0] at hm
          cases hm
          obtain ⟨u, hu1, hu2, rfl⟩ := sp_in_nat (lo := 1) (hi := n - 1) (by decide) (by omega) e3
          rw [nI_clamp (by omega)]
          exact Nat.le_of_lt (Nat.lt_of_lt_of_le (sp_left_lt (by omega) hu1 (by omega)) hn)
        · rw [sp_ls_n (by omega) (by simpa using e3)] at hm; cases hm
theorem sp_ls_b {k f : Nat} {x : Int32} {xs : List Int32} {n : Nat} : sp_ls k f (x :: xs) n = (sp_ls k f [x] n).bind (fun m => sp_ls k f xs m) := by
  by_cases e : 1 < n
  · by_cases e3 : sp_in x 1 (nI (n - 1)) = true
    · rw [sp_ls_y e e3, sp_ls_y e e3, sp_ls_0]; rfl
    · rw [sp_ls_n e (by simpa using e3), sp_ls_n e (by simpa using e3)]; rfl
  · rw [sp_ls_1 (by omega), sp_ls_1 (by omega), sp_ls_0]; rfl
theorem pm_sk_of6 {h : pm_H} {a n k f : Nat} (hc : h.2 a = some (.inr (6, [.int (nI n), .int (nI k), .int (nI f)]))) : pm_sk h a n k f 1 59 := Or.inl ⟨hc, rfl, rfl⟩
theorem pm_sk_of7 {h : pm_H} {a n k f lo hi : Nat} (hc : h.2 a = some (.inr (7, [.int (nI n), .int (nI k), .int (nI f), .int (nI lo), .int (nI hi)]))) : pm_sk h a n k f lo hi := Or.inr hc
set_option maxRecDepth 10000 in
set_option maxHeartbeats 4000000 in
theorem c_X9_asStalks1 {h : pm_H} {a : Nat} {fs : List Value} (ht : h.2 a = some (.inr (1, []))) : pm_Cv e_X9_asStalks [.ref a] h .null h := by
  refine pm_enter rfl (Nat.le_of_ble_eq_true rfl) ?_
  show pm_V e_X9_asStalks 0 [some (.ref a), none] [] h (0, 0) _
  refine r_aload_0 d_X9_asStalks_0 ?_
  refine r_instNo d_X9_asStalks_1 wm_235 ht rfl (List.mem_of_getElem? (i := 0) rfl) ?_
  change pm_V _ _ _ (.int (nI 0) :: _) _ _ _
  refine r_if_eq d_X9_asStalks_4 (fun c4 => ?_) (fun c4 => absurd (by decide) c4)
  clear c4
  refine r_null d_X9_asStalks_14 ?_
  refine r_areturnN d_X9_asStalks_15 rfl ?_
  exact ⟨rfl, rfl⟩
set_option maxRecDepth 10000 in
set_option maxHeartbeats 4000000 in
theorem c_X9_asStalks2 {h : pm_H} {a : Nat} {fs : List Value} (ht : h.2 a = some (.inr (2, []))) : pm_Cv e_X9_asStalks [.ref a] h .null h := by
  refine pm_enter rfl (Nat.le_of_ble_eq_true rfl) ?_
  show pm_V e_X9_asStalks 0 [some (.ref a), none] [] h (0, 0) _
  refine r_aload_0 d_X9_asStalks_0 ?_
  refine r_instNo d_X9_asStalks_1 wm_235 ht rfl (List.mem_of_getElem? (i := 1) rfl) ?_
  change pm_V _ _ _ (.int (nI 0) :: _) _ _ _
  refine r_if_eq d_X9_asStalks_4 (fun c4 => ?_) (fun c4 => absurd (by decide) c4)
  clear c4
  refine r_null d_X9_asStalks_14 ?_
  refine r_areturnN d_X9_asStalks_15 rfl ?_
  exact ⟨rfl, rfl⟩
set_option maxRecDepth 10000 in
set_option maxHeartbeats 4000000 in
theorem c_X9_asStalks6 {h : pm_H} {a : Nat} {fs : List Value} (ht : h.2 a = some (.inr (6, fs))) : pm_Cv e_X9_asStalks [.ref a] h (.ref a) h := by
  refine pm_enter rfl (Nat.le_of_ble_eq_true rfl) ?_
  show pm_V e_X9_asStalks 0 [some (.ref a), none] [] h (0, 0) _
  refine r_aload_0 d_X9_asStalks_0 ?_
  refine r_instY d_X9_asStalks_1 wm_235 ht rfl (Or.inl rfl) ?_
  change pm_V _ _ _ (.int (nI 1) :: _) _ _ _
  refine r_if_eq d_X9_asStalks_4 (fun c4 => absurd c4 (by decide)) (fun c4 => ?_)
  clear c4
  refine r_aload_0 d_X9_asStalks_7 ?_
  refine r_cast d_X9_asStalks_8 wm_235 ht rfl (Or.inl rfl) ?_
  refine r_astore_1 d_X9_asStalks_11 (Nat.le_of_ble_eq_true rfl) (fun w hw => by cases hw <;> rfl) ?_
  refine r_aload_1 d_X9_asStalks_12 ?_
  refine r_areturn d_X9_asStalks_13 rfl ?_
  exact ⟨rfl, rfl⟩
set_option maxRecDepth 10000 in
set_option maxHeartbeats 4000000 in
theorem c_X9_asStalks7 {h : pm_H} {a : Nat} {fs : List Value} (ht : h.2 a = some (.inr (7, fs))) : pm_Cv e_X9_asStalks [.ref a] h (.ref a) h := by
  refine pm_enter rfl (Nat.le_of_ble_eq_true rfl) ?_
  show pm_V e_X9_asStalks 0 [some (.ref a), none] [] h (0, 0) _
  refine r_aload_0 d_X9_asStalks_0 ?_
  refine r_instY d_X9_asStalks_1 wm_235 ht rfl (Or.inr wm_1119) ?_
  change pm_V _ _ _ (.int (nI 1) :: _) _ _ _
  refine r_if_eq d_X9_asStalks_4 (fun c4 => absurd c4 (by decide)) (fun c4 => ?_)
  clear c4
  refine r_aload_0 d_X9_asStalks_7 ?_
  refine r_cast d_X9_asStalks_8 wm_235 ht rfl (Or.inr wm_1119) ?_
  refine r_astore_1 d_X9_asStalks_11 (Nat.le_of_ble_eq_true rfl) (fun w hw => by cases hw <;> rfl) ?_
  refine r_aload_1 d_X9_asStalks_12 ?_
  refine r_areturn d_X9_asStalks_13 rfl ?_
  exact ⟨rfl, rfl⟩
set_option maxRecDepth 10000 in
set_option maxHeartbeats 4000000 in
theorem c_X9_told {h : pm_H} {xi : Nat → Int32} {xl : Nat → Int64} {xc : Nat → Option Nat} {XA : Nat → Nat → Int32} {XB : Nat → Nat → Int64} {c : Int32} {cn : Nat} {C : Nat → sp_Cs} (hCC : x_CC h xi xc cn C) {w : Int32} : pm_Cv e_X9_told [.ref 1, .int c, .int w] (pmX h xi xl xc XA XB) (.int (sp_ans (sp_told ((pm_ci c cn).map C) w))) (x_fin h xi xl xc XA XB (sp_told ((pm_ci c cn).map C) w)) := by
  cases hci : pm_ci c cn with
  | none =>
    change pm_Cv _ _ _ (.int (-1)) (pmX h xi xl xc XA XB)
    refine pm_enter rfl (Nat.le_of_ble_eq_true rfl) ?_
    show pm_V e_X9_told 0 [some (.ref 1), some (.int c), some (.int w), none] [] (pmX h xi xl xc XA XB) (0, 0) _
    refine r_aload_0 d_X9_told_0 ?_
    refine r_iload_1 d_X9_told_1 ?_
    refine r_V1 d_X9_told_2 (c_X9_casterAt_no hCC.1 hci) rfl rfl rfl ⟨rfl, rfl⟩ (Nat.le_of_ble_eq_true rfl) ?_
    refine r_astoreN_3 d_X9_told_5 (Nat.le_of_ble_eq_true rfl) (fun w hw => by cases hw <;> rfl) ?_
    refine r_aloadN_3 d_X9_told_6 ?_
    refine r_ifnullN d_X9_told_7 ?_
    refine r_push d_X9_told_19 ?_
    refine r_ireturn d_X9_told_20 ⟨_, rfl, rfl⟩ ?_
    exact ⟨rfl, rfl⟩
  | some j =>
    obtain ⟨hj, rfl⟩ := pm_ci_some (Nat.lt_of_le_of_lt hCC.2.1 (by decide)) hci
    have hA : pm_Cv e_X9_casterAt [.ref 1, .int (nI j)] (pmX h xi xl xc XA XB) (.ref (68 + j)) (pmX h xi xl xc XA XB) := c_X9_casterAt hCC hj
    have hcs := (hCC.2.2 j hj).2
    change pm_Cv _ _ _ (.int (sp_ans (sp_told (some (C j)) w))) (x_fin h xi xl xc XA XB (sp_told (some (C j)) w))
    generalize C j = q9 at hcs ⊢
    obtain ⟨kd, n, k, f, lo, hi⟩ := q9
    by_cases hw : sp_in w 0 3 = true
    · rw [show sp_told (some (kd, n, k, f, lo, hi)) w = .inl (sp_tell (kd, n, k, f, lo, hi) w) from if_pos hw]
      have h1 := of_decide_eq_true hw
      change pm_Cv _ _ _ (.int (sp_tell (kd, n, k, f, lo, hi) w)) (pmX h xi xl xc XA XB)
      change pm_cs h (68 + j) kd n k f lo hi at hcs
      rcases hcs with ⟨e, hcell⟩ | ⟨e, hcell⟩ | ⟨e, e1, e2, ok, hcell⟩ | ⟨e, ok, hcell⟩
      ·
        subst e
        have hcell := (pmX_ne (h := h) (xi := xi) (xl := xl) (xc := xc) (XA := XA) (XB := XB) (a := 68 + j) (by omega)).trans hcell
        refine pm_enter rfl (Nat.le_of_ble_eq_true rfl) ?_
        show pm_V e_X9_told 0 [some (.ref 1), some (.int (nI j)), some (.int w), none] [] (pmX h xi xl xc XA XB) (0, 0) _
        refine r_aload_0 d_X9_told_0 ?_
        refine r_iload_1 d_X9_told_1 ?_
        refine r_V1 d_X9_told_2 hA rfl rfl rfl ⟨rfl, rfl⟩ (Nat.le_of_ble_eq_true rfl) ?_
        refine r_astore_3 d_X9_told_5 (Nat.le_of_ble_eq_true rfl) (fun w hw => by cases hw <;> rfl) ?_
        refine r_aload_3 d_X9_told_6 ?_
        refine r_ifnull d_X9_told_7 ?_
        refine r_iload_2 d_X9_told_10 ?_
        refine r_if_lt d_X9_told_11 (fun c11 => ?_) (fun c11 => ?_)
        · -- taken at 11
          first | exact absurd c11 (Int32.not_lt.mpr h1.1) | exact absurd h1.2 c16
        · -- not taken at 11
          refine r_iload_2 d_X9_told_14 ?_
          refine r_push d_X9_told_15 ?_
          refine r_icmp_le d_X9_told_16 (fun c16 => ?_) (fun c16 => ?_)
          · -- taken at 16
            refine r_aload_3 d_X9_told_21 ?_
            refine r_iload_2 d_X9_told_22 ?_
            refine r_V1 d_X9_told_23_1 c_X1_tell hcell rfl rfl ⟨rfl, rfl⟩ (Nat.le_of_ble_eq_true rfl) ?_
            refine r_ireturn d_X9_told_26 ⟨_, rfl, rfl⟩ ?_
            exact ⟨rfl, rfl⟩
          · -- not taken at 16
            first | exact absurd c11 (Int32.not_lt.mpr h1.1) | exact absurd h1.2 c16
      ·
        subst e
        have hcell := (pmX_ne (h := h) (xi := xi) (xl := xl) (xc := xc) (XA := XA) (XB := XB) (a := 68 + j) (by omega)).trans hcell
        refine pm_enter rfl (Nat.le_of_ble_eq_true rfl) ?_
        show pm_V e_X9_told 0 [some (.ref 1), some (.int (nI j)), some (.int w), none] [] (pmX h xi xl xc XA XB) (0, 0) _
        refine r_aload_0 d_X9_told_0 ?_
        refine r_iload_1 d_X9_told_1 ?_
        refine r_V1 d_X9_told_2 hA rfl rfl rfl ⟨rfl, rfl⟩ (Nat.le_of_ble_eq_true rfl) ?_
        refine r_astore_3 d_X9_told_5 (Nat.le_of_ble_eq_true rfl) (fun w hw => by cases hw <;> rfl) ?_
        refine r_aload_3 d_X9_told_6 ?_
        refine r_ifnull d_X9_told_7 ?_
        refine r_iload_2 d_X9_told_10 ?_
        refine r_if_lt d_X9_told_11 (fun c11 => ?_) (fun c11 => ?_)
        · -- taken at 11
          first | exact absurd c11 (Int32.not_lt.mpr h1.1) | exact absurd h1.2 c16
        · -- not taken at 11
          refine r_iload_2 d_X9_told_14 ?_
          refine r_push d_X9_told_15 ?_
          refine r_icmp_le d_X9_told_16 (fun c16 => ?_) (fun c16 => ?_)
          · -- taken at 16
            refine r_aload_3 d_X9_told_21 ?_
            refine r_iload_2 d_X9_told_22 ?_
            refine r_V1 d_X9_told_23_2 c_X2_tell hcell rfl rfl ⟨rfl, rfl⟩ (Nat.le_of_ble_eq_true rfl) ?_
            refine r_ireturn d_X9_told_26 ⟨_, rfl, rfl⟩ ?_
            exact ⟨rfl, rfl⟩
          · -- not taken at 16
            first | exact absurd c11 (Int32.not_lt.mpr h1.1) | exact absurd h1.2 c16
      ·
        subst e
        subst e1 e2
        have hcell := (pmX_ne (h := h) (xi := xi) (xl := xl) (xc := xc) (XA := XA) (XB := XB) (a := 68 + j) (by omega)).trans hcell
        refine pm_enter rfl (Nat.le_of_ble_eq_true rfl) ?_
        show pm_V e_X9_told 0 [some (.ref 1), some (.int (nI j)), some (.int w), none] [] (pmX h xi xl xc XA XB) (0, 0) _
        refine r_aload_0 d_X9_told_0 ?_
        refine r_iload_1 d_X9_told_1 ?_
        refine r_V1 d_X9_told_2 hA rfl rfl rfl ⟨rfl, rfl⟩ (Nat.le_of_ble_eq_true rfl) ?_
        refine r_astore_3 d_X9_told_5 (Nat.le_of_ble_eq_true rfl) (fun w hw => by cases hw <;> rfl) ?_
        refine r_aload_3 d_X9_told_6 ?_
        refine r_ifnull d_X9_told_7 ?_
        refine r_iload_2 d_X9_told_10 ?_
        refine r_if_lt d_X9_told_11 (fun c11 => ?_) (fun c11 => ?_)
        · -- taken at 11
          first | exact absurd c11 (Int32.not_lt.mpr h1.1) | exact absurd h1.2 c16
        · -- not taken at 11
          refine r_iload_2 d_X9_told_14 ?_
          refine r_push d_X9_told_15 ?_
          refine r_icmp_le d_X9_told_16 (fun c16 => ?_) (fun c16 => ?_)
          · -- taken at 16
            refine r_aload_3 d_X9_told_21 ?_
            refine r_iload_2 d_X9_told_22 ?_
            refine r_V1 d_X9_told_23_6 (c_X6_tell6 (lo := 1) (hi := 59) hcell) hcell rfl rfl ⟨rfl, rfl⟩ (Nat.le_of_ble_eq_true rfl) ?_
            refine r_ireturn d_X9_told_26 ⟨_, rfl, rfl⟩ ?_
            exact ⟨rfl, rfl⟩
          · -- not taken at 16
            first | exact absurd c11 (Int32.not_lt.mpr h1.1) | exact absurd h1.2 c16
      ·
        subst e
        have hcell := (pmX_ne (h := h) (xi := xi) (xl := xl) (xc := xc) (XA := XA) (XB := XB) (a := 68 + j) (by omega)).trans hcell
        refine pm_enter rfl (Nat.le_of_ble_eq_true rfl) ?_
        show pm_V e_X9_told 0 [some (.ref 1), some (.int (nI j)), some (.int w), none] [] (pmX h xi xl xc XA XB) (0, 0) _
        refine r_aload_0 d_X9_told_0 ?_
        refine r_iload_1 d_X9_told_1 ?_
        refine r_V1 d_X9_told_2 hA rfl rfl rfl ⟨rfl, rfl⟩ (Nat.le_of_ble_eq_true rfl) ?_
        refine r_astore_3 d_X9_told_5 (Nat.le_of_ble_eq_true rfl) (fun w hw => by cases hw <;> rfl) ?_
        refine r_aload_3 d_X9_told_6 ?_
        refine r_ifnull d_X9_told_7 ?_
        refine r_iload_2 d_X9_told_10 ?_
        refine r_if_lt d_X9_told_11 (fun c11 => ?_) (fun c11 => ?_)
        · -- taken at 11
          first | exact absurd c11 (Int32.not_lt.mpr h1.1) | exact absurd h1.2 c16
        · -- not taken at 11
          refine r_iload_2 d_X9_told_14 ?_
          refine r_push d_X9_told_15 ?_
          refine r_icmp_le d_X9_told_16 (fun c16 => ?_) (fun c16 => ?_)
          · -- taken at 16
            refine r_aload_3 d_X9_told_21 ?_
            refine r_iload_2 d_X9_told_22 ?_
            refine r_V1 d_X9_told_23_7 (c_X6_tell7 hcell) hcell rfl rfl ⟨rfl, rfl⟩ (Nat.le_of_ble_eq_true rfl) ?_
            refine r_ireturn d_X9_told_26 ⟨_, rfl, rfl⟩ ?_
            exact ⟨rfl, rfl⟩
          · -- not taken at 16
            first | exact absurd c11 (Int32.not_lt.mpr h1.1) | exact absurd h1.2 c16
    · rw [show sp_told (some (kd, n, k, f, lo, hi)) w = .inl (-1) from if_neg hw]
      change pm_Cv _ _ _ (.int (-1)) (pmX h xi xl xc XA XB)
      refine pm_enter rfl (Nat.le_of_ble_eq_true rfl) ?_
      show pm_V e_X9_told 0 [some (.ref 1), some (.int (nI j)), some (.int w), none] [] (pmX h xi xl xc XA XB) (0, 0) _
      refine r_aload_0 d_X9_told_0 ?_
      refine r_iload_1 d_X9_told_1 ?_
      refine r_V1 d_X9_told_2 hA rfl rfl rfl ⟨rfl, rfl⟩ (Nat.le_of_ble_eq_true rfl) ?_
      refine r_astore_3 d_X9_told_5 (Nat.le_of_ble_eq_true rfl) (fun w hw => by cases hw <;> rfl) ?_
      refine r_aload_3 d_X9_told_6 ?_
      refine r_ifnull d_X9_told_7 ?_
      refine r_iload_2 d_X9_told_10 ?_
      refine r_if_lt d_X9_told_11 (fun c11 => ?_) (fun c11 => ?_)
      · -- taken at 11
        refine r_push d_X9_told_19 ?_
        refine r_ireturn d_X9_told_20 ⟨_, rfl, rfl⟩ ?_
        exact ⟨rfl, rfl⟩
      · -- not taken at 11
        refine r_iload_2 d_X9_told_14 ?_
        refine r_push d_X9_told_15 ?_
        refine r_icmp_le d_X9_told_16 (fun c16 => ?_) (fun c16 => ?_)
        · -- taken at 16
          exact absurd (decide_eq_true ⟨Int32.not_lt.mp c11, c16⟩) hw
        · -- not taken at 16
          refine r_push d_X9_told_19 ?_
          refine r_ireturn d_X9_told_20 ⟨_, rfl, rfl⟩ ?_
          exact ⟨rfl, rfl⟩
set_option maxRecDepth 10000 in
set_option maxHeartbeats 4000000 in
theorem c_X9_mark {h : pm_H} {xi : Nat → Int32} {xl : Nat → Int64} {xc : Nat → Option Nat} {XA : Nat → Nat → Int32} {XB : Nat → Nat → Int64} {c : Int32} {cn : Nat} {C : Nat → sp_Cs} (hCC : x_CC h xi xc cn C) {w : Int32} : pm_Cv e_X9_mark [.ref 1, .int c, .int w] (pmX h xi xl xc XA XB) (.int (sp_ans (sp_mark ((pm_ci c cn).map C) w))) (x_fin h xi xl xc XA XB (sp_mark ((pm_ci c cn).map C) w)) := by
  cases hci : pm_ci c cn with
  | none =>
    change pm_Cv _ _ _ (.int (-1)) (pmX h xi xl xc XA XB)
    refine pm_enter rfl (Nat.le_of_ble_eq_true rfl) ?_
    show pm_V e_X9_mark 0 [some (.ref 1), some (.int c), some (.int w), none, none] [] (pmX h xi xl xc XA XB) (0, 0) _
    refine r_aload_0 d_X9_mark_0 ?_
    refine r_iload_1 d_X9_mark_1 ?_
    refine r_V1 d_X9_mark_2 (c_X9_casterAt_no hCC.1 hci) rfl rfl rfl ⟨rfl, rfl⟩ (Nat.le_of_ble_eq_true rfl) ?_
    refine r_astoreN_3 d_X9_mark_5 (Nat.le_of_ble_eq_true rfl) (fun w hw => by cases hw <;> rfl) ?_
    refine r_aloadN_3 d_X9_mark_6 ?_
    refine r_ifnullN d_X9_mark_7 ?_
    refine r_push d_X9_mark_20 ?_
    refine r_ireturn d_X9_mark_21 ⟨_, rfl, rfl⟩ ?_
    exact ⟨rfl, rfl⟩
  | some j =>
    obtain ⟨hj, rfl⟩ := pm_ci_some (Nat.lt_of_le_of_lt hCC.2.1 (by decide)) hci
    have hA : pm_Cv e_X9_casterAt [.ref 1, .int (nI j)] (pmX h xi xl xc XA XB) (.ref (68 + j)) (pmX h xi xl xc XA XB) := c_X9_casterAt hCC hj
    have hcs := (hCC.2.2 j hj).2
    change pm_Cv _ _ _ (.int (sp_ans (sp_mark (some (C j)) w))) (x_fin h xi xl xc XA XB (sp_mark (some (C j)) w))
    generalize C j = q9 at hcs ⊢
    obtain ⟨kd, n, k, f, lo, hi⟩ := q9
    by_cases hw : sp_in w 1 3 = true
    · obtain ⟨y, hy1, hy3, rfl⟩ := sp_in_nat (lo := 1) (hi := 3) (by decide) (by decide) hw
      rcases (show y = 1 ∨ y = 2 ∨ y = 3 by omega) with rfl | rfl | rfl
      ·
        change pm_cs h (68 + j) kd n k f lo hi at hcs
        rcases hcs with ⟨e, hcell⟩ | ⟨e, hcell⟩ | ⟨e, e1, e2, ok, hcell⟩ | ⟨e, ok, hcell⟩
        ·
          subst e
          have hcell := (pmX_ne (h := h) (xi := xi) (xl := xl) (xc := xc) (XA := XA) (XB := XB) (a := 68 + j) (by omega)).trans hcell
          change pm_Cv _ _ _ (.int (-3)) (x_meet h xi xl xc XA XB 3)
          refine pm_enter rfl (Nat.le_of_ble_eq_true rfl) ?_
          show pm_V e_X9_mark 0 [some (.ref 1), some (.int (nI j)), some (.int (nI 1)), none, none] [] (pmX h xi xl xc XA XB) (0, 0) _
          refine r_aload_0 d_X9_mark_0 ?_
          refine r_iload_1 d_X9_mark_1 ?_
          refine r_V1 d_X9_mark_2 hA rfl rfl rfl ⟨rfl, rfl⟩ (Nat.le_of_ble_eq_true rfl) ?_
          refine r_astore_3 d_X9_mark_5 (Nat.le_of_ble_eq_true rfl) (fun w hw => by cases hw <;> rfl) ?_
          refine r_aload_3 d_X9_mark_6 ?_
          refine r_ifnull d_X9_mark_7 ?_
          refine r_iload_2 d_X9_mark_10 ?_
          refine r_push (v := nI 1) d_X9_mark_11 ?_
          refine r_icmp_lt d_X9_mark_12 (fun c12 => absurd c12 (by decide)) (fun c12 => ?_)
          clear c12
          refine r_iload_2 d_X9_mark_15 ?_
          refine r_push (v := nI 3) d_X9_mark_16 ?_
          refine r_icmp_le d_X9_mark_17 (fun c17 => ?_) (fun c17 => absurd (by decide) c17)
          clear c17
          refine r_iload_2 d_X9_mark_22 ?_
          refine r_push (v := nI 1) d_X9_mark_23 ?_
          refine r_icmp_ne d_X9_mark_24 (fun c24 => absurd (by decide) c24) (fun c24 => ?_)
          clear c24
          refine r_aload_3 d_X9_mark_27 ?_
          refine r_instNo d_X9_mark_28 wm_235 hcell rfl (List.mem_of_getElem? (i := 0) rfl) ?_
          change pm_V _ _ _ (.int (nI 0) :: _) _ _ _
          refine r_if_eq d_X9_mark_31 (fun c31 => ?_) (fun c31 => absurd (by decide) c31)
          clear c31
          refine r_iload_2 d_X9_mark_52 ?_
          refine r_push (v := nI 2) d_X9_mark_53 ?_
          refine r_icmp_ne d_X9_mark_54 (fun c54 => ?_) (fun c54 => absurd c54 (by decide))
          clear c54
          refine r_iload_2 d_X9_mark_66 ?_
          refine r_push (v := nI 3) d_X9_mark_67 ?_
          refine r_icmp_ne d_X9_mark_68 (fun c68 => ?_) (fun c68 => absurd c68 (by decide))
          clear c68
          refine r_aload_0 d_X9_mark_90 ?_
          refine r_push (v := nI 3) d_X9_mark_91 ?_
          refine r_V1 d_X9_mark_92 (c_X9_found (w := 3) (by decide)) rfl rfl rfl ⟨rfl, rfl⟩ (Nat.le_of_ble_eq_true rfl) ?_
          refine r_ireturn d_X9_mark_95 ⟨_, rfl, rfl⟩ ?_
          exact ⟨rfl, rfl⟩
        ·
          subst e
          have hcell := (pmX_ne (h := h) (xi := xi) (xl := xl) (xc := xc) (XA := XA) (XB := XB) (a := 68 + j) (by omega)).trans hcell
          change pm_Cv _ _ _ (.int (-3)) (x_meet h xi xl xc XA XB 3)
          refine pm_enter rfl (Nat.le_of_ble_eq_true rfl) ?_
          show pm_V e_X9_mark 0 [some (.ref 1), some (.int (nI j)), some (.int (nI 1)), none, none] [] (pmX h xi xl xc XA XB) (0, 0) _
          refine r_aload_0 d_X9_mark_0 ?_
          refine r_iload_1 d_X9_mark_1 ?_
          refine r_V1 d_X9_mark_2 hA rfl rfl rfl ⟨rfl, rfl⟩ (Nat.le_of_ble_eq_true rfl) ?_
          refine r_astore_3 d_X9_mark_5 (Nat.le_of_ble_eq_true rfl) (fun w hw => by cases hw <;> rfl) ?_
          refine r_aload_3 d_X9_mark_6 ?_
          refine r_ifnull d_X9_mark_7 ?_
          refine r_iload_2 d_X9_mark_10 ?_
          refine r_push (v := nI 1) d_X9_mark_11 ?_
          refine r_icmp_lt d_X9_mark_12 (fun c12 => absurd c12 (by decide)) (fun c12 => ?_)
          clear c12
          refine r_iload_2 d_X9_mark_15 ?_
          refine r_push (v := nI 3) d_X9_mark_16 ?_
          refine r_icmp_le d_X9_mark_17 (fun c17 => ?_) (fun c17 => absurd (by decide) c17)
          clear c17
          refine r_iload_2 d_X9_mark_22 ?_
          refine r_push (v := nI 1) d_X9_mark_23 ?_
          refine r_icmp_ne d_X9_mark_24 (fun c24 => absurd (by decide) c24) (fun c24 => ?_)
          clear c24
          refine r_aload_3 d_X9_mark_27 ?_
          refine r_instNo d_X9_mark_28 wm_235 hcell rfl (List.mem_of_getElem? (i := 1) rfl) ?_
          change pm_V _ _ _ (.int (nI 0) :: _) _ _ _
          refine r_if_eq d_X9_mark_31 (fun c31 => ?_) (fun c31 => absurd (by decide) c31)
          clear c31
          refine r_iload_2 d_X9_mark_52 ?_
          refine r_push (v := nI 2) d_X9_mark_53 ?_
          refine r_icmp_ne d_X9_mark_54 (fun c54 => ?_) (fun c54 => absurd c54 (by decide))
          clear c54
          refine r_iload_2 d_X9_mark_66 ?_
          refine r_push (v := nI 3) d_X9_mark_67 ?_
          refine r_icmp_ne d_X9_mark_68 (fun c68 => ?_) (fun c68 => absurd c68 (by decide))
          clear c68
          refine r_aload_0 d_X9_mark_90 ?_
          refine r_push (v := nI 3) d_X9_mark_91 ?_
          refine r_V1 d_X9_mark_92 (c_X9_found (w := 3) (by decide)) rfl rfl rfl ⟨rfl, rfl⟩ (Nat.le_of_ble_eq_true rfl) ?_
          refine r_ireturn d_X9_mark_95 ⟨_, rfl, rfl⟩ ?_
          exact ⟨rfl, rfl⟩
        ·
          subst e
          subst e1 e2
          have hcell := (pmX_ne (h := h) (xi := xi) (xl := xl) (xc := xc) (XA := XA) (XB := XB) (a := 68 + j) (by omega)).trans hcell
          change pm_Cv _ _ _ (.int (nI (sp_left k f n 1))) (pmX h xi xl xc XA XB)
          refine pm_enter rfl (Nat.le_of_ble_eq_true rfl) ?_
          show pm_V e_X9_mark 0 [some (.ref 1), some (.int (nI j)), some (.int (nI 1)), none, none] [] (pmX h xi xl xc XA XB) (0, 0) _
          refine r_aload_0 d_X9_mark_0 ?_
          refine r_iload_1 d_X9_mark_1 ?_
          refine r_V1 d_X9_mark_2 hA rfl rfl rfl ⟨rfl, rfl⟩ (Nat.le_of_ble_eq_true rfl) ?_
          refine r_astore_3 d_X9_mark_5 (Nat.le_of_ble_eq_true rfl) (fun w hw => by cases hw <;> rfl) ?_
          refine r_aload_3 d_X9_mark_6 ?_
          refine r_ifnull d_X9_mark_7 ?_
          refine r_iload_2 d_X9_mark_10 ?_
          refine r_push (v := nI 1) d_X9_mark_11 ?_
          refine r_icmp_lt d_X9_mark_12 (fun c12 => absurd c12 (by decide)) (fun c12 => ?_)
          clear c12
          refine r_iload_2 d_X9_mark_15 ?_
          refine r_push (v := nI 3) d_X9_mark_16 ?_
          refine r_icmp_le d_X9_mark_17 (fun c17 => ?_) (fun c17 => absurd (by decide) c17)
          clear c17
          refine r_iload_2 d_X9_mark_22 ?_
          refine r_push (v := nI 1) d_X9_mark_23 ?_
          refine r_icmp_ne d_X9_mark_24 (fun c24 => absurd (by decide) c24) (fun c24 => ?_)
          clear c24
          refine r_aload_3 d_X9_mark_27 ?_
          refine r_instY d_X9_mark_28 wm_235 hcell rfl (Or.inl rfl) ?_
          change pm_V _ _ _ (.int (nI 1) :: _) _ _ _
          refine r_if_eq d_X9_mark_31 (fun c31 => absurd c31 (by decide)) (fun c31 => ?_)
          clear c31
          refine r_aload_3 d_X9_mark_34 ?_
          refine r_cast d_X9_mark_35 wm_235 hcell rfl (Or.inl rfl) ?_
          refine r_astore_4 d_X9_mark_38 (Nat.le_of_ble_eq_true rfl) (fun w hw => by cases hw <;> rfl) ?_
          refine r_aload_4 d_X9_mark_40 ?_
          refine r_aload_4 d_X9_mark_42 ?_
          refine r_get d_X9_mark_44 s6_bundle hcell rfl ?_
          refine r_push (v := nI 1) d_X9_mark_47 ?_
          refine r_V2 d_X9_mark_48_6 (c_X6_leftOf (pm_sk_of6 hcell) ok (by have := ok.2.1; omega) ⟨by omega, by have := ok.1; omega⟩) hcell rfl rfl ⟨rfl, rfl⟩ (Nat.le_of_ble_eq_true rfl) ?_
          refine r_ireturn d_X9_mark_51 ⟨_, rfl, rfl⟩ ?_
          exact ⟨rfl, rfl⟩
        ·
          subst e
          have hcell := (pmX_ne (h := h) (xi := xi) (xl := xl) (xc := xc) (XA := XA) (XB := XB) (a := 68 + j) (by omega)).trans hcell
          change pm_Cv _ _ _ (.int (nI (sp_left k f n 1))) (pmX h xi xl xc XA XB)
          refine pm_enter rfl (Nat.le_of_ble_eq_true rfl) ?_
          show pm_V e_X9_mark 0 [some (.ref 1), some (.int (nI j)), some (.int (nI 1)), none, none] [] (pmX h xi xl xc XA XB) (0, 0) _
          refine r_aload_0 d_X9_mark_0 ?_
          refine r_iload_1 d_X9_mark_1 ?_
          refine r_V1 d_X9_mark_2 hA rfl rfl rfl ⟨rfl, rfl⟩ (Nat.le_of_ble_eq_true rfl) ?_
          refine r_astore_3 d_X9_mark_5 (Nat.le_of_ble_eq_true rfl) (fun w hw => by cases hw <;> rfl) ?_
          refine r_aload_3 d_X9_mark_6 ?_
          refine r_ifnull d_X9_mark_7 ?_
          refine r_iload_2 d_X9_mark_10 ?_
          refine r_push (v := nI 1) d_X9_mark_11 ?_
          refine r_icmp_lt d_X9_mark_12 (fun c12 => absurd c12 (by decide)) (fun c12 => ?_)
          clear c12
          refine r_iload_2 d_X9_mark_15 ?_
          refine r_push (v := nI 3) d_X9_mark_16 ?_
          refine r_icmp_le d_X9_mark_17 (fun c17 => ?_) (fun c17 => absurd (by decide) c17)
          clear c17
          refine r_iload_2 d_X9_mark_22 ?_
          refine r_push (v := nI 1) d_X9_mark_23 ?_
          refine r_icmp_ne d_X9_mark_24 (fun c24 => absurd (by decide) c24) (fun c24 => ?_)
          clear c24
          refine r_aload_3 d_X9_mark_27 ?_
          refine r_instY d_X9_mark_28 wm_235 hcell rfl (Or.inr wm_1119) ?_
          change pm_V _ _ _ (.int (nI 1) :: _) _ _ _
          refine r_if_eq d_X9_mark_31 (fun c31 => absurd c31 (by decide)) (fun c31 => ?_)
          clear c31
          refine r_aload_3 d_X9_mark_34 ?_
          refine r_cast d_X9_mark_35 wm_235 hcell rfl (Or.inr wm_1119) ?_
          refine r_astore_4 d_X9_mark_38 (Nat.le_of_ble_eq_true rfl) (fun w hw => by cases hw <;> rfl) ?_
          refine r_aload_4 d_X9_mark_40 ?_
          refine r_aload_4 d_X9_mark_42 ?_
          refine r_get d_X9_mark_44 s7_bundle hcell rfl ?_
          refine r_push (v := nI 1) d_X9_mark_47 ?_
          refine r_V2 d_X9_mark_48_7 (c_X6_leftOf (pm_sk_of7 hcell) ok (by have := ok.2.1; omega) ⟨by omega, by have := ok.1; omega⟩) hcell rfl rfl ⟨rfl, rfl⟩ (Nat.le_of_ble_eq_true rfl) ?_
          refine r_ireturn d_X9_mark_51 ⟨_, rfl, rfl⟩ ?_
          exact ⟨rfl, rfl⟩
      ·
        change pm_cs h (68 + j) kd n k f lo hi at hcs
        rcases hcs with ⟨e, hcell⟩ | ⟨e, hcell⟩ | ⟨e, e1, e2, ok, hcell⟩ | ⟨e, ok, hcell⟩
        ·
          subst e
          have hcell := (pmX_ne (h := h) (xi := xi) (xl := xl) (xc := xc) (XA := XA) (XB := XB) (a := 68 + j) (by omega)).trans hcell
          change pm_Cv _ _ _ (.int (-3)) (x_meet h xi xl xc XA XB 3)
          refine pm_enter rfl (Nat.le_of_ble_eq_true rfl) ?_
          show pm_V e_X9_mark 0 [some (.ref 1), some (.int (nI j)), some (.int (nI 2)), none, none] [] (pmX h xi xl xc XA XB) (0, 0) _
          refine r_aload_0 d_X9_mark_0 ?_
          refine r_iload_1 d_X9_mark_1 ?_
          refine r_V1 d_X9_mark_2 hA rfl rfl rfl ⟨rfl, rfl⟩ (Nat.le_of_ble_eq_true rfl) ?_
          refine r_astore_3 d_X9_mark_5 (Nat.le_of_ble_eq_true rfl) (fun w hw => by cases hw <;> rfl) ?_
          refine r_aload_3 d_X9_mark_6 ?_
          refine r_ifnull d_X9_mark_7 ?_
          refine r_iload_2 d_X9_mark_10 ?_
          refine r_push (v := nI 1) d_X9_mark_11 ?_
          refine r_icmp_lt d_X9_mark_12 (fun c12 => absurd c12 (by decide)) (fun c12 => ?_)
          clear c12
          refine r_iload_2 d_X9_mark_15 ?_
          refine r_push (v := nI 3) d_X9_mark_16 ?_
          refine r_icmp_le d_X9_mark_17 (fun c17 => ?_) (fun c17 => absurd (by decide) c17)
          clear c17
          refine r_iload_2 d_X9_mark_22 ?_
          refine r_push (v := nI 1) d_X9_mark_23 ?_
          refine r_icmp_ne d_X9_mark_24 (fun c24 => ?_) (fun c24 => absurd c24 (by decide))
          clear c24
          refine r_iload_2 d_X9_mark_52 ?_
          refine r_push (v := nI 2) d_X9_mark_53 ?_
          refine r_icmp_ne d_X9_mark_54 (fun c54 => absurd (by decide) c54) (fun c54 => ?_)
          clear c54
          refine r_aload_3 d_X9_mark_57 ?_
          refine r_instNo d_X9_mark_58 wm_211 hcell rfl (List.mem_of_getElem? (i := 2) rfl) ?_
          change pm_V _ _ _ (.int (nI 0) :: _) _ _ _
          refine r_if_eq d_X9_mark_61 (fun c61 => ?_) (fun c61 => absurd (by decide) c61)
          clear c61
          refine r_iload_2 d_X9_mark_66 ?_
          refine r_push (v := nI 3) d_X9_mark_67 ?_
          refine r_icmp_ne d_X9_mark_68 (fun c68 => ?_) (fun c68 => absurd c68 (by decide))
          clear c68
          refine r_aload_0 d_X9_mark_90 ?_
          refine r_push (v := nI 3) d_X9_mark_91 ?_
          refine r_V1 d_X9_mark_92 (c_X9_found (w := 3) (by decide)) rfl rfl rfl ⟨rfl, rfl⟩ (Nat.le_of_ble_eq_true rfl) ?_
          refine r_ireturn d_X9_mark_95 ⟨_, rfl, rfl⟩ ?_
          exact ⟨rfl, rfl⟩
        ·
          subst e
          have hcell := (pmX_ne (h := h) (xi := xi) (xl := xl) (xc := xc) (XA := XA) (XB := XB) (a := 68 + j) (by omega)).trans hcell
          change pm_Cv _ _ _ (.int 4) (pmX h xi xl xc XA XB)
          refine pm_enter rfl (Nat.le_of_ble_eq_true rfl) ?_
          show pm_V e_X9_mark 0 [some (.ref 1), some (.int (nI j)), some (.int (nI 2)), none, none] [] (pmX h xi xl xc XA XB) (0, 0) _
          refine r_aload_0 d_X9_mark_0 ?_
          refine r_iload_1 d_X9_mark_1 ?_
          refine r_V1 d_X9_mark_2 hA rfl rfl rfl ⟨rfl, rfl⟩ (Nat.le_of_ble_eq_true rfl) ?_
          refine r_astore_3 d_X9_mark_5 (Nat.le_of_ble_eq_true rfl) (fun w hw => by cases hw <;> rfl) ?_
          refine r_aload_3 d_X9_mark_6 ?_
          refine r_ifnull d_X9_mark_7 ?_
          refine r_iload_2 d_X9_mark_10 ?_
          refine r_push (v := nI 1) d_X9_mark_11 ?_
          refine r_icmp_lt d_X9_mark_12 (fun c12 => absurd c12 (by decide)) (fun c12 => ?_)
          clear c12
          refine r_iload_2 d_X9_mark_15 ?_
          refine r_push (v := nI 3) d_X9_mark_16 ?_
          refine r_icmp_le d_X9_mark_17 (fun c17 => ?_) (fun c17 => absurd (by decide) c17)
          clear c17
          refine r_iload_2 d_X9_mark_22 ?_
          refine r_push (v := nI 1) d_X9_mark_23 ?_
          refine r_icmp_ne d_X9_mark_24 (fun c24 => ?_) (fun c24 => absurd c24 (by decide))
          clear c24
          refine r_iload_2 d_X9_mark_52 ?_
          refine r_push (v := nI 2) d_X9_mark_53 ?_
          refine r_icmp_ne d_X9_mark_54 (fun c54 => absurd (by decide) c54) (fun c54 => ?_)
          clear c54
          refine r_aload_3 d_X9_mark_57 ?_
          refine r_instY d_X9_mark_58 wm_211 hcell rfl (Or.inl rfl) ?_
          change pm_V _ _ _ (.int (nI 1) :: _) _ _ _
          refine r_if_eq d_X9_mark_61 (fun c61 => absurd c61 (by decide)) (fun c61 => ?_)
          clear c61
          refine r_push (v := nI 4) d_X9_mark_64 ?_
          refine r_ireturn d_X9_mark_65 ⟨_, rfl, rfl⟩ ?_
          exact ⟨rfl, rfl⟩
        ·
          subst e
          subst e1 e2
          have hcell := (pmX_ne (h := h) (xi := xi) (xl := xl) (xc := xc) (XA := XA) (XB := XB) (a := 68 + j) (by omega)).trans hcell
          change pm_Cv _ _ _ (.int (-3)) (x_meet h xi xl xc XA XB 3)
          refine pm_enter rfl (Nat.le_of_ble_eq_true rfl) ?_
          show pm_V e_X9_mark 0 [some (.ref 1), some (.int (nI j)), some (.int (nI 2)), none, none] [] (pmX h xi xl xc XA XB) (0, 0) _
          refine r_aload_0 d_X9_mark_0 ?_
          refine r_iload_1 d_X9_mark_1 ?_
          refine r_V1 d_X9_mark_2 hA rfl rfl rfl ⟨rfl, rfl⟩ (Nat.le_of_ble_eq_true rfl) ?_
          refine r_astore_3 d_X9_mark_5 (Nat.le_of_ble_eq_true rfl) (fun w hw => by cases hw <;> rfl) ?_
          refine r_aload_3 d_X9_mark_6 ?_
          refine r_ifnull d_X9_mark_7 ?_
          refine r_iload_2 d_X9_mark_10 ?_
          refine r_push (v := nI 1) d_X9_mark_11 ?_
          refine r_icmp_lt d_X9_mark_12 (fun c12 => absurd c12 (by decide)) (fun c12 => ?_)
          clear c12
          refine r_iload_2 d_X9_mark_15 ?_
          refine r_push (v := nI 3) d_X9_mark_16 ?_
          refine r_icmp_le d_X9_mark_17 (fun c17 => ?_) (fun c17 => absurd (by decide) c17)
          clear c17
          refine r_iload_2 d_X9_mark_22 ?_
          refine r_push (v := nI 1) d_X9_mark_23 ?_
          refine r_icmp_ne d_X9_mark_24 (fun c24 => ?_) (fun c24 => absurd c24 (by decide))
          clear c24
          refine r_iload_2 d_X9_mark_52 ?_
          refine r_push (v := nI 2) d_X9_mark_53 ?_
          refine r_icmp_ne d_X9_mark_54 (fun c54 => absurd (by decide) c54) (fun c54 => ?_)
          clear c54
          refine r_aload_3 d_X9_mark_57 ?_
          refine r_instNo d_X9_mark_58 wm_211 hcell rfl (List.mem_of_getElem? (i := 3) rfl) ?_
          change pm_V _ _ _ (.int (nI 0) :: _) _ _ _
          refine r_if_eq d_X9_mark_61 (fun c61 => ?_) (fun c61 => absurd (by decide) c61)
          clear c61
          refine r_iload_2 d_X9_mark_66 ?_
          refine r_push (v := nI 3) d_X9_mark_67 ?_
          refine r_icmp_ne d_X9_mark_68 (fun c68 => ?_) (fun c68 => absurd c68 (by decide))
          clear c68
          refine r_aload_0 d_X9_mark_90 ?_
          refine r_push (v := nI 3) d_X9_mark_91 ?_
          refine r_V1 d_X9_mark_92 (c_X9_found (w := 3) (by decide)) rfl rfl rfl ⟨rfl, rfl⟩ (Nat.le_of_ble_eq_true rfl) ?_
          refine r_ireturn d_X9_mark_95 ⟨_, rfl, rfl⟩ ?_
          exact ⟨rfl, rfl⟩
        ·
          subst e
          have hcell := (pmX_ne (h := h) (xi := xi) (xl := xl) (xc := xc) (XA := XA) (XB := XB) (a := 68 + j) (by omega)).trans hcell
          change pm_Cv _ _ _ (.int (-3)) (x_meet h xi xl xc XA XB 3)
          refine pm_enter rfl (Nat.le_of_ble_eq_true rfl) ?_
          show pm_V e_X9_mark 0 [some (.ref 1), some (.int (nI j)), some (.int (nI 2)), none, none] [] (pmX h xi xl xc XA XB) (0, 0) _
          refine r_aload_0 d_X9_mark_0 ?_
          refine r_iload_1 d_X9_mark_1 ?_
          refine r_V1 d_X9_mark_2 hA rfl rfl rfl ⟨rfl, rfl⟩ (Nat.le_of_ble_eq_true rfl) ?_
          refine r_astore_3 d_X9_mark_5 (Nat.le_of_ble_eq_true rfl) (fun w hw => by cases hw <;> rfl) ?_
          refine r_aload_3 d_X9_mark_6 ?_
          refine r_ifnull d_X9_mark_7 ?_
          refine r_iload_2 d_X9_mark_10 ?_
          refine r_push (v := nI 1) d_X9_mark_11 ?_
          refine r_icmp_lt d_X9_mark_12 (fun c12 => absurd c12 (by decide)) (fun c12 => ?_)
          clear c12
          refine r_iload_2 d_X9_mark_15 ?_
          refine r_push (v := nI 3) d_X9_mark_16 ?_
          refine r_icmp_le d_X9_mark_17 (fun c17 => ?_) (fun c17 => absurd (by decide) c17)
          clear c17
          refine r_iload_2 d_X9_mark_22 ?_
          refine r_push (v := nI 1) d_X9_mark_23 ?_
          refine r_icmp_ne d_X9_mark_24 (fun c24 => ?_) (fun c24 => absurd c24 (by decide))
          clear c24
          refine r_iload_2 d_X9_mark_52 ?_
          refine r_push (v := nI 2) d_X9_mark_53 ?_
          refine r_icmp_ne d_X9_mark_54 (fun c54 => absurd (by decide) c54) (fun c54 => ?_)
          clear c54
          refine r_aload_3 d_X9_mark_57 ?_
          refine r_instNo d_X9_mark_58 wm_211 hcell rfl (List.mem_of_getElem? (i := 4) rfl) ?_
          change pm_V _ _ _ (.int (nI 0) :: _) _ _ _
          refine r_if_eq d_X9_mark_61 (fun c61 => ?_) (fun c61 => absurd (by decide) c61)
          clear c61
          refine r_iload_2 d_X9_mark_66 ?_
          refine r_push (v := nI 3) d_X9_mark_67 ?_
          refine r_icmp_ne d_X9_mark_68 (fun c68 => ?_) (fun c68 => absurd c68 (by decide))
          clear c68
          refine r_aload_0 d_X9_mark_90 ?_
          refine r_push (v := nI 3) d_X9_mark_91 ?_
          refine r_V1 d_X9_mark_92 (c_X9_found (w := 3) (by decide)) rfl rfl rfl ⟨rfl, rfl⟩ (Nat.le_of_ble_eq_true rfl) ?_
          refine r_ireturn d_X9_mark_95 ⟨_, rfl, rfl⟩ ?_
          exact ⟨rfl, rfl⟩
      ·
        change pm_cs h (68 + j) kd n k f lo hi at hcs
        rcases hcs with ⟨e, hcell⟩ | ⟨e, hcell⟩ | ⟨e, e1, e2, ok, hcell⟩ | ⟨e, ok, hcell⟩
        ·
          subst e
          have hcell := (pmX_ne (h := h) (xi := xi) (xl := xl) (xc := xc) (XA := XA) (XB := XB) (a := 68 + j) (by omega)).trans hcell
          change pm_Cv _ _ _ (.int (-3)) (x_meet h xi xl xc XA XB 3)
          refine pm_enter rfl (Nat.le_of_ble_eq_true rfl) ?_
          show pm_V e_X9_mark 0 [some (.ref 1), some (.int (nI j)), some (.int (nI 3)), none, none] [] (pmX h xi xl xc XA XB) (0, 0) _
          refine r_aload_0 d_X9_mark_0 ?_
          refine r_iload_1 d_X9_mark_1 ?_
          refine r_V1 d_X9_mark_2 hA rfl rfl rfl ⟨rfl, rfl⟩ (Nat.le_of_ble_eq_true rfl) ?_
          refine r_astore_3 d_X9_mark_5 (Nat.le_of_ble_eq_true rfl) (fun w hw => by cases hw <;> rfl) ?_
          refine r_aload_3 d_X9_mark_6 ?_
          refine r_ifnull d_X9_mark_7 ?_
          refine r_iload_2 d_X9_mark_10 ?_
          refine r_push (v := nI 1) d_X9_mark_11 ?_
          refine r_icmp_lt d_X9_mark_12 (fun c12 => absurd c12 (by decide)) (fun c12 => ?_)
          clear c12
          refine r_iload_2 d_X9_mark_15 ?_
          refine r_push (v := nI 3) d_X9_mark_16 ?_
          refine r_icmp_le d_X9_mark_17 (fun c17 => ?_) (fun c17 => absurd (by decide) c17)
          clear c17
          refine r_iload_2 d_X9_mark_22 ?_
          refine r_push (v := nI 1) d_X9_mark_23 ?_
          refine r_icmp_ne d_X9_mark_24 (fun c24 => ?_) (fun c24 => absurd c24 (by decide))
          clear c24
          refine r_iload_2 d_X9_mark_52 ?_
          refine r_push (v := nI 2) d_X9_mark_53 ?_
          refine r_icmp_ne d_X9_mark_54 (fun c54 => ?_) (fun c54 => absurd c54 (by decide))
          clear c54
          refine r_iload_2 d_X9_mark_66 ?_
          refine r_push (v := nI 3) d_X9_mark_67 ?_
          refine r_icmp_ne d_X9_mark_68 (fun c68 => absurd (by decide) c68) (fun c68 => ?_)
          clear c68
          refine r_aload_3 d_X9_mark_71 ?_
          refine r_instNo d_X9_mark_72 wm_256 hcell rfl (List.mem_of_getElem? (i := 5) rfl) ?_
          change pm_V _ _ _ (.int (nI 0) :: _) _ _ _
          refine r_if_eq d_X9_mark_75 (fun c75 => ?_) (fun c75 => absurd (by decide) c75)
          clear c75
          refine r_aload_0 d_X9_mark_90 ?_
          refine r_push (v := nI 3) d_X9_mark_91 ?_
          refine r_V1 d_X9_mark_92 (c_X9_found (w := 3) (by decide)) rfl rfl rfl ⟨rfl, rfl⟩ (Nat.le_of_ble_eq_true rfl) ?_
          refine r_ireturn d_X9_mark_95 ⟨_, rfl, rfl⟩ ?_
          exact ⟨rfl, rfl⟩
        ·
          subst e
          have hcell := (pmX_ne (h := h) (xi := xi) (xl := xl) (xc := xc) (XA := XA) (XB := XB) (a := 68 + j) (by omega)).trans hcell
          change pm_Cv _ _ _ (.int (-3)) (x_meet h xi xl xc XA XB 3)
          refine pm_enter rfl (Nat.le_of_ble_eq_true rfl) ?_
          show pm_V e_X9_mark 0 [some (.ref 1), some (.int (nI j)), some (.int (nI 3)), none, none] [] (pmX h xi xl xc XA XB) (0, 0) _
          refine r_aload_0 d_X9_mark_0 ?_
          refine r_iload_1 d_X9_mark_1 ?_
          refine r_V1 d_X9_mark_2 hA rfl rfl rfl ⟨rfl, rfl⟩ (Nat.le_of_ble_eq_true rfl) ?_
          refine r_astore_3 d_X9_mark_5 (Nat.le_of_ble_eq_true rfl) (fun w hw => by cases hw <;> rfl) ?_
          refine r_aload_3 d_X9_mark_6 ?_
          refine r_ifnull d_X9_mark_7 ?_
          refine r_iload_2 d_X9_mark_10 ?_
          refine r_push (v := nI 1) d_X9_mark_11 ?_
          refine r_icmp_lt d_X9_mark_12 (fun c12 => absurd c12 (by decide)) (fun c12 => ?_)
          clear c12
          refine r_iload_2 d_X9_mark_15 ?_
          refine r_push (v := nI 3) d_X9_mark_16 ?_
          refine r_icmp_le d_X9_mark_17 (fun c17 => ?_) (fun c17 => absurd (by decide) c17)
          clear c17
          refine r_iload_2 d_X9_mark_22 ?_
          refine r_push (v := nI 1) d_X9_mark_23 ?_
          refine r_icmp_ne d_X9_mark_24 (fun c24 => ?_) (fun c24 => absurd c24 (by decide))
          clear c24
          refine r_iload_2 d_X9_mark_52 ?_
          refine r_push (v := nI 2) d_X9_mark_53 ?_
          refine r_icmp_ne d_X9_mark_54 (fun c54 => ?_) (fun c54 => absurd c54 (by decide))
          clear c54
          refine r_iload_2 d_X9_mark_66 ?_
          refine r_push (v := nI 3) d_X9_mark_67 ?_
          refine r_icmp_ne d_X9_mark_68 (fun c68 => absurd (by decide) c68) (fun c68 => ?_)
          clear c68
          refine r_aload_3 d_X9_mark_71 ?_
          refine r_instNo d_X9_mark_72 wm_256 hcell rfl (List.mem_of_getElem? (i := 6) rfl) ?_
          change pm_V _ _ _ (.int (nI 0) :: _) _ _ _
          refine r_if_eq d_X9_mark_75 (fun c75 => ?_) (fun c75 => absurd (by decide) c75)
          clear c75
          refine r_aload_0 d_X9_mark_90 ?_
          refine r_push (v := nI 3) d_X9_mark_91 ?_
          refine r_V1 d_X9_mark_92 (c_X9_found (w := 3) (by decide)) rfl rfl rfl ⟨rfl, rfl⟩ (Nat.le_of_ble_eq_true rfl) ?_
          refine r_ireturn d_X9_mark_95 ⟨_, rfl, rfl⟩ ?_
          exact ⟨rfl, rfl⟩
        ·
          subst e
          subst e1 e2
          have hcell := (pmX_ne (h := h) (xi := xi) (xl := xl) (xc := xc) (XA := XA) (XB := XB) (a := 68 + j) (by omega)).trans hcell
          change pm_Cv _ _ _ (.int (-3)) (x_meet h xi xl xc XA XB 3)
          refine pm_enter rfl (Nat.le_of_ble_eq_true rfl) ?_
          show pm_V e_X9_mark 0 [some (.ref 1), some (.int (nI j)), some (.int (nI 3)), none, none] [] (pmX h xi xl xc XA XB) (0, 0) _
          refine r_aload_0 d_X9_mark_0 ?_
          refine r_iload_1 d_X9_mark_1 ?_
          refine r_V1 d_X9_mark_2 hA rfl rfl rfl ⟨rfl, rfl⟩ (Nat.le_of_ble_eq_true rfl) ?_
          refine r_astore_3 d_X9_mark_5 (Nat.le_of_ble_eq_true rfl) (fun w hw => by cases hw <;> rfl) ?_
          refine r_aload_3 d_X9_mark_6 ?_
          refine r_ifnull d_X9_mark_7 ?_
          refine r_iload_2 d_X9_mark_10 ?_
          refine r_push (v := nI 1) d_X9_mark_11 ?_
          refine r_icmp_lt d_X9_mark_12 (fun c12 => absurd c12 (by decide)) (fun c12 => ?_)
          clear c12
          refine r_iload_2 d_X9_mark_15 ?_
          refine r_push (v := nI 3) d_X9_mark_16 ?_
          refine r_icmp_le d_X9_mark_17 (fun c17 => ?_) (fun c17 => absurd (by decide) c17)
          clear c17
          refine r_iload_2 d_X9_mark_22 ?_
          refine r_push (v := nI 1) d_X9_mark_23 ?_
          refine r_icmp_ne d_X9_mark_24 (fun c24 => ?_) (fun c24 => absurd c24 (by decide))
          clear c24
          refine r_iload_2 d_X9_mark_52 ?_
          refine r_push (v := nI 2) d_X9_mark_53 ?_
          refine r_icmp_ne d_X9_mark_54 (fun c54 => ?_) (fun c54 => absurd c54 (by decide))
          clear c54
          refine r_iload_2 d_X9_mark_66 ?_
          refine r_push (v := nI 3) d_X9_mark_67 ?_
          refine r_icmp_ne d_X9_mark_68 (fun c68 => absurd (by decide) c68) (fun c68 => ?_)
          clear c68
          refine r_aload_3 d_X9_mark_71 ?_
          refine r_instNo d_X9_mark_72 wm_256 hcell rfl (List.mem_of_getElem? (i := 7) rfl) ?_
          change pm_V _ _ _ (.int (nI 0) :: _) _ _ _
          refine r_if_eq d_X9_mark_75 (fun c75 => ?_) (fun c75 => absurd (by decide) c75)
          clear c75
          refine r_aload_0 d_X9_mark_90 ?_
          refine r_push (v := nI 3) d_X9_mark_91 ?_
          refine r_V1 d_X9_mark_92 (c_X9_found (w := 3) (by decide)) rfl rfl rfl ⟨rfl, rfl⟩ (Nat.le_of_ble_eq_true rfl) ?_
          refine r_ireturn d_X9_mark_95 ⟨_, rfl, rfl⟩ ?_
          exact ⟨rfl, rfl⟩
        ·
          subst e
          have hcell := (pmX_ne (h := h) (xi := xi) (xl := xl) (xc := xc) (XA := XA) (XB := XB) (a := 68 + j) (by omega)).trans hcell
          change pm_Cv _ _ _ (.int (nI (sp_places lo hi n))) (pmX h xi xl xc XA XB)
          refine pm_enter rfl (Nat.le_of_ble_eq_true rfl) ?_
          show pm_V e_X9_mark 0 [some (.ref 1), some (.int (nI j)), some (.int (nI 3)), none, none] [] (pmX h xi xl xc XA XB) (0, 0) _
          refine r_aload_0 d_X9_mark_0 ?_
          refine r_iload_1 d_X9_mark_1 ?_
          refine r_V1 d_X9_mark_2 hA rfl rfl rfl ⟨rfl, rfl⟩ (Nat.le_of_ble_eq_true rfl) ?_
          refine r_astore_3 d_X9_mark_5 (Nat.le_of_ble_eq_true rfl) (fun w hw => by cases hw <;> rfl) ?_
          refine r_aload_3 d_X9_mark_6 ?_
          refine r_ifnull d_X9_mark_7 ?_
          refine r_iload_2 d_X9_mark_10 ?_
          refine r_push (v := nI 1) d_X9_mark_11 ?_
          refine r_icmp_lt d_X9_mark_12 (fun c12 => absurd c12 (by decide)) (fun c12 => ?_)
          clear c12
          refine r_iload_2 d_X9_mark_15 ?_
          refine r_push (v := nI 3) d_X9_mark_16 ?_
          refine r_icmp_le d_X9_mark_17 (fun c17 => ?_) (fun c17 => absurd (by decide) c17)
          clear c17
          refine r_iload_2 d_X9_mark_22 ?_
          refine r_push (v := nI 1) d_X9_mark_23 ?_
          refine r_icmp_ne d_X9_mark_24 (fun c24 => ?_) (fun c24 => absurd c24 (by decide))
          clear c24
          refine r_iload_2 d_X9_mark_52 ?_
          refine r_push (v := nI 2) d_X9_mark_53 ?_
          refine r_icmp_ne d_X9_mark_54 (fun c54 => ?_) (fun c54 => absurd c54 (by decide))
          clear c54
          refine r_iload_2 d_X9_mark_66 ?_
          refine r_push (v := nI 3) d_X9_mark_67 ?_
          refine r_icmp_ne d_X9_mark_68 (fun c68 => absurd (by decide) c68) (fun c68 => ?_)
          clear c68
          refine r_aload_3 d_X9_mark_71 ?_
          refine r_instY d_X9_mark_72 wm_256 hcell rfl (Or.inl rfl) ?_
          change pm_V _ _ _ (.int (nI 1) :: _) _ _ _
          refine r_if_eq d_X9_mark_75 (fun c75 => absurd c75 (by decide)) (fun c75 => ?_)
          clear c75
          refine r_aload_3 d_X9_mark_78 ?_
          refine r_cast d_X9_mark_79 wm_256 hcell rfl (Or.inl rfl) ?_
          refine r_astore_4 d_X9_mark_82 (Nat.le_of_ble_eq_true rfl) (fun w hw => by cases hw <;> rfl) ?_
          refine r_aload_4 d_X9_mark_84 ?_
          refine r_V0 d_X9_mark_86 (c_X6_placesAtFirst (pm_sk_of7 hcell) ok) hcell rfl rfl ⟨rfl, rfl⟩ (Nat.le_of_ble_eq_true rfl) ?_
          refine r_ireturn d_X9_mark_89 ⟨_, rfl, rfl⟩ ?_
          exact ⟨rfl, rfl⟩
    · rw [show sp_mark (some (kd, n, k, f, lo, hi)) w = .inl (-1) from if_neg hw]
      change pm_Cv _ _ _ (.int (-1)) (pmX h xi xl xc XA XB)
      refine pm_enter rfl (Nat.le_of_ble_eq_true rfl) ?_
      show pm_V e_X9_mark 0 [some (.ref 1), some (.int (nI j)), some (.int w), none, none] [] (pmX h xi xl xc XA XB) (0, 0) _
      refine r_aload_0 d_X9_mark_0 ?_
      refine r_iload_1 d_X9_mark_1 ?_
      refine r_V1 d_X9_mark_2 hA rfl rfl rfl ⟨rfl, rfl⟩ (Nat.le_of_ble_eq_true rfl) ?_
      refine r_astore_3 d_X9_mark_5 (Nat.le_of_ble_eq_true rfl) (fun w hw => by cases hw <;> rfl) ?_
      refine r_aload_3 d_X9_mark_6 ?_
      refine r_ifnull d_X9_mark_7 ?_
      refine r_iload_2 d_X9_mark_10 ?_
      refine r_push d_X9_mark_11 ?_
      refine r_icmp_lt d_X9_mark_12 (fun c12 => ?_) (fun c12 => ?_)
      · -- taken at 12
        refine r_push d_X9_mark_20 ?_
        refine r_ireturn d_X9_mark_21 ⟨_, rfl, rfl⟩ ?_
        exact ⟨rfl, rfl⟩
      · -- not taken at 12
        refine r_iload_2 d_X9_mark_15 ?_
        refine r_push d_X9_mark_16 ?_
        refine r_icmp_le d_X9_mark_17 (fun c17 => ?_) (fun c17 => ?_)
        · -- taken at 17
          exact absurd (decide_eq_true ⟨Int32.not_lt.mp c12, c17⟩) hw
        · -- not taken at 17
          refine r_push d_X9_mark_20 ?_
          refine r_ireturn d_X9_mark_21 ⟨_, rfl, rfl⟩ ?_
          exact ⟨rfl, rfl⟩
