def x_fin (h : pm_H) (xi : Nat → Int32) (xl : Nat → Int64) (xc : Nat → Option Nat) (XA : Nat → Nat → Int32) (XB : Nat → Nat → Int64) (r : Int32 ⊕ Nat) : pm_H := match r with
  | .inl _ => pmX h xi xl xc XA XB
  | .inr w => x_meet h xi xl xc XA XB w
set_option maxRecDepth 10000 in
set_option maxHeartbeats 4000000 in
theorem c_X1_tell {h : pm_H} {a : Nat} {w : Int32} : pm_Cv e_X1_tell [.ref a, .int w] h (.int (if w = 0 then 0 else -9)) h := by
  refine pm_enter rfl (Nat.le_of_ble_eq_true rfl) ?_
  show pm_V e_X1_tell 0 [some (.ref a), some (.int w)] [] h (0, 0) _
  refine r_iload_1 d_X1_tell_0 ?_
  refine r_if_ne d_X1_tell_1 (fun c1 => ?_) (fun c1 => ?_)
  · -- taken at 1
    refine r_push d_X1_tell_8 ?_
    refine r_ireturn d_X1_tell_10 ⟨_, rfl, rfl⟩ ?_
    first | exact ⟨by rw [if_pos c1], rfl⟩ | exact ⟨by rw [if_neg c1], rfl⟩
  · -- not taken at 1
    refine r_push d_X1_tell_4 ?_
    refine r_goto d_X1_tell_5 ?_
    refine r_ireturn d_X1_tell_10 ⟨_, rfl, rfl⟩ ?_
    first | exact ⟨by rw [if_pos c1], rfl⟩ | exact ⟨by rw [if_neg c1], rfl⟩
set_option maxRecDepth 10000 in
set_option maxHeartbeats 4000000 in
theorem c_X2_tell {h : pm_H} {a : Nat} {w : Int32} : pm_Cv e_X2_tell [.ref a, .int w] h (.int (if w = 0 then 2 else -9)) h := by
  refine pm_enter rfl (Nat.le_of_ble_eq_true rfl) ?_
  show pm_V e_X2_tell 0 [some (.ref a), some (.int w)] [] h (0, 0) _
  refine r_iload_1 d_X2_tell_0 ?_
  refine r_if_ne d_X2_tell_1 (fun c1 => ?_) (fun c1 => ?_)
  · -- taken at 1
    refine r_push d_X2_tell_8 ?_
    refine r_ireturn d_X2_tell_10 ⟨_, rfl, rfl⟩ ?_
    first | exact ⟨by rw [if_pos c1], rfl⟩ | exact ⟨by rw [if_neg c1], rfl⟩
  · -- not taken at 1
    refine r_push d_X2_tell_4 ?_
    refine r_goto d_X2_tell_5 ?_
    refine r_ireturn d_X2_tell_10 ⟨_, rfl, rfl⟩ ?_
    first | exact ⟨by rw [if_pos c1], rfl⟩ | exact ⟨by rw [if_neg c1], rfl⟩
set_option maxRecDepth 10000 in
set_option maxHeartbeats 4000000 in
theorem c_X6_kind {h : pm_H} {a : Nat} : pm_Cv e_X6_kind [.ref a] h (.int 1) h := by
  refine pm_enter rfl (Nat.le_of_ble_eq_true rfl) ?_
  show pm_V e_X6_kind 0 [some (.ref a)] [] h (0, 0) _
  refine r_push d_X6_kind_0 ?_
  refine r_ireturn d_X6_kind_1 ⟨_, rfl, rfl⟩ ?_
  exact ⟨rfl, rfl⟩
set_option maxRecDepth 10000 in
set_option maxHeartbeats 4000000 in
theorem c_X7_kind {h : pm_H} {a : Nat} : pm_Cv e_X7_kind [.ref a] h (.int 3) h := by
  refine pm_enter rfl (Nat.le_of_ble_eq_true rfl) ?_
  show pm_V e_X7_kind 0 [some (.ref a)] [] h (0, 0) _
  refine r_push d_X7_kind_0 ?_
  refine r_ireturn d_X7_kind_1 ⟨_, rfl, rfl⟩ ?_
  exact ⟨rfl, rfl⟩
set_option maxRecDepth 10000 in
set_option maxHeartbeats 4000000 in
theorem c_X6_tell6 {h : pm_H} {a n k f lo hi : Nat} {w : Int32} (ht : h.2 a = some (.inr (6, [.int (nI n), .int (nI k), .int (nI f)]))) : pm_Cv e_X6_tell [.ref a, .int w] h (.int (if w = 0 then 1 else if w = 1 then nI n else if w = 2 then nI k else nI f)) h := by
  refine pm_enter rfl (Nat.le_of_ble_eq_true rfl) ?_
  show pm_V e_X6_tell 0 [some (.ref a), some (.int w)] [] h (0, 0) _
  refine r_iload_1 d_X6_tell_0 ?_
  refine r_sw3 (a0 := 0) (a1 := 1) (a2 := 2) d_X6_tell_1 rfl rfl rfl (fun c1 => ?_) (fun c1 => ?_) (fun c1 => ?_) (fun c1a c1b c1c => ?_)
  · -- place 0 at 1
    refine r_aload_0 d_X6_tell_28 ?_
    refine r_V0 d_X6_tell_29_6 c_X6_kind ht rfl rfl ⟨rfl, rfl⟩ (Nat.le_of_ble_eq_true rfl) ?_
    refine r_ireturn d_X6_tell_32 ⟨_, rfl, rfl⟩ ?_
    first
    | (subst c1; exact ⟨rfl, rfl⟩)
    | exact ⟨by rw [if_neg c1a, if_neg c1b, if_neg c1c], rfl⟩
  · -- place 1 at 1
    refine r_aload_0 d_X6_tell_33 ?_
    refine r_get d_X6_tell_34 s6_bundle ht rfl ?_
    refine r_ireturn d_X6_tell_37 ⟨_, rfl, rfl⟩ ?_
    first
    | (subst c1; exact ⟨rfl, rfl⟩)
    | exact ⟨by rw [if_neg c1a, if_neg c1b, if_neg c1c], rfl⟩
  · -- place 2 at 1
    refine r_aload_0 d_X6_tell_38 ?_
    refine r_get d_X6_tell_39 s6_by ht rfl ?_
    refine r_ireturn d_X6_tell_42 ⟨_, rfl, rfl⟩ ?_
    first
    | (subst c1; exact ⟨rfl, rfl⟩)
    | exact ⟨by rw [if_neg c1a, if_neg c1b, if_neg c1c], rfl⟩
  · -- the rest at 1
    refine r_aload_0 d_X6_tell_43 ?_
    refine r_get d_X6_tell_44 s6_fingers ht rfl ?_
    refine r_ireturn d_X6_tell_47 ⟨_, rfl, rfl⟩ ?_
    first
    | (subst c1; exact ⟨rfl, rfl⟩)
    | exact ⟨by rw [if_neg c1a, if_neg c1b, if_neg c1c], rfl⟩
set_option maxRecDepth 10000 in
set_option maxHeartbeats 4000000 in
theorem c_X6_tell7 {h : pm_H} {a n k f lo hi : Nat} {w : Int32} (ht : h.2 a = some (.inr (7, [.int (nI n), .int (nI k), .int (nI f), .int (nI lo), .int (nI hi)]))) : pm_Cv e_X6_tell [.ref a, .int w] h (.int (if w = 0 then 3 else if w = 1 then nI n else if w = 2 then nI k else nI f)) h := by
  refine pm_enter rfl (Nat.le_of_ble_eq_true rfl) ?_
  show pm_V e_X6_tell 0 [some (.ref a), some (.int w)] [] h (0, 0) _
  refine r_iload_1 d_X6_tell_0 ?_
  refine r_sw3 (a0 := 0) (a1 := 1) (a2 := 2) d_X6_tell_1 rfl rfl rfl (fun c1 => ?_) (fun c1 => ?_) (fun c1 => ?_) (fun c1a c1b c1c => ?_)
  · -- place 0 at 1
    refine r_aload_0 d_X6_tell_28 ?_
    refine r_V0 d_X6_tell_29_7 c_X7_kind ht rfl rfl ⟨rfl, rfl⟩ (Nat.le_of_ble_eq_true rfl) ?_
    refine r_ireturn d_X6_tell_32 ⟨_, rfl, rfl⟩ ?_
    first
    | (subst c1; exact ⟨rfl, rfl⟩)
    | exact ⟨by rw [if_neg c1a, if_neg c1b, if_neg c1c], rfl⟩
  · -- place 1 at 1
    refine r_aload_0 d_X6_tell_33 ?_
    refine r_get d_X6_tell_34 s7_bundle ht rfl ?_
    refine r_ireturn d_X6_tell_37 ⟨_, rfl, rfl⟩ ?_
    first
    | (subst c1; exact ⟨rfl, rfl⟩)
    | exact ⟨by rw [if_neg c1a, if_neg c1b, if_neg c1c], rfl⟩
  · -- place 2 at 1
    refine r_aload_0 d_X6_tell_38 ?_
    refine r_get d_X6_tell_39 s7_by ht rfl ?_
    refine r_ireturn d_X6_tell_42 ⟨_, rfl, rfl⟩ ?_
    first
    | (subst c1; exact ⟨rfl, rfl⟩)
    | exact ⟨by rw [if_neg c1a, if_neg c1b, if_neg c1c], rfl⟩
  · -- the rest at 1
    refine r_aload_0 d_X6_tell_43 ?_
    refine r_get d_X6_tell_44 s7_fingers ht rfl ?_
    refine r_ireturn d_X6_tell_47 ⟨_, rfl, rfl⟩ ?_
    first
    | (subst c1; exact ⟨rfl, rfl⟩)
    | exact ⟨by rw [if_neg c1a, if_neg c1b, if_neg c1c], rfl⟩
theorem sp_60 {m : Int32} (h : m ≤ 60) : m < nI 61 := by
  have e : (nI 61).toInt = 61 := rfl
  have e2 : (60 : Int32).toInt = 60 := rfl
  rw [Int32.lt_iff_toInt_lt]
  rw [Int32.le_iff_toInt_le] at h
  omega
def sp_pd (k f : Nat) (n x : Int32) : Int32 := if n < 2 then n else if 1 ≤ x ∧ x < n then nI (sp_left k f n.toNatClampNeg x.toNatClampNeg) else -1
set_option maxRecDepth 10000 in
set_option maxHeartbeats 4000000 in
theorem c_X6_partedAt {h : pm_H} {a n k f lo hi : Nat} {m x : Int32} (ht : pm_sk h a n k f lo hi) (ok : pm_ok n k f lo hi) (hm : m ≤ 60) : pm_Cv e_X6_partedAt [.ref a, .int m, .int x] h (.int (sp_pd k f m x)) h := by
  have ht0 := ht
  rcases ht with ⟨ht, -⟩ | ht
  ·
    refine pm_enter rfl (Nat.le_of_ble_eq_true rfl) ?_
    show pm_V e_X6_partedAt 0 [some (.ref a), some (.int m), some (.int x)] [] h (0, 0) _
    refine r_iload_1 d_X6_partedAt_0 ?_
    refine r_push d_X6_partedAt_1 ?_
    refine r_icmp_ge d_X6_partedAt_2 (fun c2 => ?_) (fun c2 => ?_)
    · -- taken at 2
      refine r_iload_2 d_X6_partedAt_7 ?_
      refine r_push d_X6_partedAt_8 ?_
      refine r_icmp_lt d_X6_partedAt_9 (fun c9 => ?_) (fun c9 => ?_)
      · -- taken at 9
        refine r_push d_X6_partedAt_17 ?_
        refine r_goto d_X6_partedAt_18 ?_
        refine r_ireturn d_X6_partedAt_27 ⟨_, rfl, rfl⟩ ?_
        first
        | exact ⟨by unfold sp_pd; rw [if_neg (Int32.not_lt.mpr c2), if_neg (fun z => by first | exact absurd c9 (Int32.not_lt.mpr z.1) | exact c14 z.2)], rfl⟩
        | exact ⟨by unfold sp_pd; rw [if_pos (Int32.not_le.mp c2)], rfl⟩
      · -- not taken at 9
        refine r_iload_2 d_X6_partedAt_12 ?_
        refine r_iload_1 d_X6_partedAt_13 ?_
        refine r_icmp_lt d_X6_partedAt_14 (fun c14 => ?_) (fun c14 => ?_)
        · -- taken at 14
          have z0 : 0 ≤ m := Int32.le_trans (by decide) c2
          obtain ⟨y, hy, rfl⟩ := pm_rng (x := m) (n := 61) (Int32.not_lt.mpr z0) (Int32.not_le.mpr (sp_60 hm)) (by omega)
          obtain ⟨u, hu, rfl⟩ := pm_rng (x := x) (n := y) (Int32.not_lt.mpr (Int32.le_trans (by decide) (Int32.not_lt.mp c9))) (Int32.not_le.mpr c14) (by omega)
          have hu1 : 1 ≤ u := (nI_leI (a := 1) (b := u) (by omega) (by omega)).mp (Int32.not_lt.mp c9)
          rw [show sp_pd k f (nI y) (nI u) = nI (sp_left k f y u) from (by unfold sp_pd; rw [if_neg (Int32.not_lt.mpr c2), if_pos ⟨Int32.not_lt.mp c9, c14⟩, nI_clamp (by omega), nI_clamp (by omega)])]
          refine r_aload_0 d_X6_partedAt_21 ?_
          refine r_iload_1 d_X6_partedAt_22 ?_
          refine r_iload_2 d_X6_partedAt_23 ?_
          refine r_V2 d_X6_partedAt_24_6 (c_X6_leftOf ht0 ok (by omega) ⟨hu1, hu⟩) ht rfl rfl ⟨rfl, rfl⟩ (Nat.le_of_ble_eq_true rfl) ?_
          refine r_ireturn d_X6_partedAt_27 ⟨_, rfl, rfl⟩ ?_
          exact ⟨rfl, rfl⟩
        · -- not taken at 14
          refine r_push d_X6_partedAt_17 ?_
          refine r_goto d_X6_partedAt_18 ?_
          refine r_ireturn d_X6_partedAt_27 ⟨_, rfl, rfl⟩ ?_
          first
          | exact ⟨by unfold sp_pd; rw [if_neg (Int32.not_lt.mpr c2), if_neg (fun z => by first | exact absurd c9 (Int32.not_lt.mpr z.1) | exact c14 z.2)], rfl⟩
          | exact ⟨by unfold sp_pd; rw [if_pos (Int32.not_le.mp c2)], rfl⟩
    · -- not taken at 2
      refine r_iload_1 d_X6_partedAt_5 ?_
      refine r_ireturn d_X6_partedAt_6 ⟨_, rfl, rfl⟩ ?_
      first
      | exact ⟨by unfold sp_pd; rw [if_neg (Int32.not_lt.mpr c2), if_neg (fun z => by first | exact absurd c9 (Int32.not_lt.mpr z.1) | exact c14 z.2)], rfl⟩
      | exact ⟨by unfold sp_pd; rw [if_pos (Int32.not_le.mp c2)], rfl⟩
  ·
    refine pm_enter rfl (Nat.le_of_ble_eq_true rfl) ?_
    show pm_V e_X6_partedAt 0 [some (.ref a), some (.int m), some (.int x)] [] h (0, 0) _
    refine r_iload_1 d_X6_partedAt_0 ?_
    refine r_push d_X6_partedAt_1 ?_
    refine r_icmp_ge d_X6_partedAt_2 (fun c2 => ?_) (fun c2 => ?_)
    · -- taken at 2
      refine r_iload_2 d_X6_partedAt_7 ?_
      refine r_push d_X6_partedAt_8 ?_
      refine r_icmp_lt d_X6_partedAt_9 (fun c9 => ?_) (fun c9 => ?_)
      · -- taken at 9
        refine r_push d_X6_partedAt_17 ?_
        refine r_goto d_X6_partedAt_18 ?_
        refine r_ireturn d_X6_partedAt_27 ⟨_, rfl, rfl⟩ ?_
        first
        | exact ⟨by unfold sp_pd; rw [if_neg (Int32.not_lt.mpr c2), if_neg (fun z => by first | exact absurd c9 (Int32.not_lt.mpr z.1) | exact c14 z.2)], rfl⟩
        | exact ⟨by unfold sp_pd; rw [if_pos (Int32.not_le.mp c2)], rfl⟩
      · -- not taken at 9
        refine r_iload_2 d_X6_partedAt_12 ?_
        refine r_iload_1 d_X6_partedAt_13 ?_
        refine r_icmp_lt d_X6_partedAt_14 (fun c14 => ?_) (fun c14 => ?_)
        · -- taken at 14
          have z0 : 0 ≤ m := Int32.le_trans (by decide) c2
          obtain ⟨y, hy, rfl⟩ := pm_rng (x := m) (n := 61) (Int32.not_lt.mpr z0) (Int32.not_le.mpr (sp_60 hm)) (by omega)
          obtain ⟨u, hu, rfl⟩ := pm_rng (x := x) (n := y) (Int32.not_lt.mpr (Int32.le_trans (by decide) (Int32.not_lt.mp c9))) (Int32.not_le.mpr c14) (by omega)
          have hu1 : 1 ≤ u := (nI_leI (a := 1) (b := u) (by omega) (by omega)).mp (Int32.not_lt.mp c9)
          rw [show sp_pd k f (nI y) (nI u) = nI (sp_left k f y u) from (by unfold sp_pd; rw [if_neg (Int32.not_lt.mpr c2), if_pos ⟨Int32.not_lt.mp c9, c14⟩, nI_clamp (by omega), nI_clamp (by omega)])]
          refine r_aload_0 d_X6_partedAt_21 ?_
          refine r_iload_1 d_X6_partedAt_22 ?_
          refine r_iload_2 d_X6_partedAt_23 ?_
          refine r_V2 d_X6_partedAt_24_7 (c_X6_leftOf ht0 ok (by omega) ⟨hu1, hu⟩) ht rfl rfl ⟨rfl, rfl⟩ (Nat.le_of_ble_eq_true rfl) ?_
          refine r_ireturn d_X6_partedAt_27 ⟨_, rfl, rfl⟩ ?_
          exact ⟨rfl, rfl⟩
        · -- not taken at 14
          refine r_push d_X6_partedAt_17 ?_
          refine r_goto d_X6_partedAt_18 ?_
          refine r_ireturn d_X6_partedAt_27 ⟨_, rfl, rfl⟩ ?_
          first
          | exact ⟨by unfold sp_pd; rw [if_neg (Int32.not_lt.mpr c2), if_neg (fun z => by first | exact absurd c9 (Int32.not_lt.mpr z.1) | exact c14 z.2)], rfl⟩
          | exact ⟨by unfold sp_pd; rw [if_pos (Int32.not_le.mp c2)], rfl⟩
    · -- not taken at 2
      refine r_iload_1 d_X6_partedAt_5 ?_
      refine r_ireturn d_X6_partedAt_6 ⟨_, rfl, rfl⟩ ?_
      first
      | exact ⟨by unfold sp_pd; rw [if_neg (Int32.not_lt.mpr c2), if_neg (fun z => by first | exact absurd c9 (Int32.not_lt.mpr z.1) | exact c14 z.2)], rfl⟩
      | exact ⟨by unfold sp_pd; rw [if_pos (Int32.not_le.mp c2)], rfl⟩
