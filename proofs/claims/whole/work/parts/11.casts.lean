/-! drawing lines -/
def sp_seed (s : Int64) : Int64 := s * 6364136223846793005 + 1442695040888963407
def sp_un (s : Int64) (m : Nat) : Nat := (s.toUInt64.toNat / 2 ^ 33) % m
theorem pm_ush33 (s : Int64) : (s.toUInt64 >>> ((nI 33).toInt64.toUInt64 &&& Int64.toUInt64 63)).toInt64 = lN (s.toUInt64.toNat / 2 ^ 33) := by
  have e : ((nI 33).toInt64.toUInt64 &&& Int64.toUInt64 63) = 33 := by decide
  rw [e]
  have e2 : s.toUInt64 >>> 33 = UInt64.ofNat (s.toUInt64.toNat / 2 ^ 33) := by
    apply UInt64.toNat_inj.mp
    have hlt := s.toUInt64.toNat_lt
    have : s.toUInt64.toNat / 2 ^ 33 < 2 ^ 64 := Nat.lt_of_le_of_lt (Nat.div_le_self _ _) hlt
    simp [UInt64.toNat_shiftRight, Nat.shiftRight_eq_div_pow, UInt64.toNat_ofNat_of_lt' this]
  rw [e2]
  rfl
theorem sp_un_lt {s : Int64} {m : Nat} (h : 0 < m) : sp_un s m < m := Nat.mod_lt _ h
theorem pm_ush33_lt (s : Int64) : s.toUInt64.toNat / 2 ^ 33 < 2 ^ 31 := by
  have hlt := s.toUInt64.toNat_lt
  omega
def sp_cl (k f lo hi : Nat) : Nat → Nat → Int64 → Nat × Int64
  | 0, n, s => (n, s)
  | r + 1, n, s => if n < 2 then (n, s) else sp_cl k f lo hi r (sp_left k f n (sp_first lo n + sp_un (sp_seed s) (sp_places lo hi n))) (sp_seed s)
def sp_coin (u : Nat) : Nat := if u = 0 then 6 else if u ≤ 3 then 7 else if u ≤ 6 then 8 else 9
/-- a line drawn by a caster of kind kd, and the number S behind it -/
def sp_draw (kd n k f lo hi : Nat) (s : Int64) : Nat × Int64 := if kd = 0 then (7, s) else if kd = 2 then (sp_coin (sp_un (sp_seed s) 8), sp_seed s) else ((sp_cl k f lo hi 3 n s).1 / k, (sp_cl k f lo hi 3 n s).2)
theorem sp_cl_le {k f lo hi : Nat} (hk : 0 < k) (h1 : 1 ≤ lo) (h2 : lo ≤ hi) (h3 : hi ≤ 59) : ∀ (r n : Nat) (s : Int64), n ≤ 60 → (sp_cl k f lo hi r n s).1 ≤ 60
  | 0, n, s, h => h
  | r + 1, n, s, h => by
    unfold sp_cl
    split
    · exact h
    · next hn =>
      have hp := sp_places_in (n := n) (by omega) h1 h2 h3
      have hu := sp_un_lt (s := sp_seed s) (m := sp_places lo hi n) (by omega)
      have hf := sp_first_in (lo := lo) (n := n) (by omega) h1
      have := sp_left_lt (k := k) (f := f) (n := n) (a := sp_first lo n + sp_un (sp_seed s) (sp_places lo hi n)) hk (by omega) (by omega)
      exact sp_cl_le hk h1 h2 h3 r _ _ (by omega)
abbrev at_seed (s : Int64) : pm_C := .inr (5, [.long s])
theorem pm_sk_up {h : pm_H} {a n k f lo hi q : Nat} {c : pm_C} (hs : pm_sk h a n k f lo hi) (hne : a ≠ q) : pm_sk (pm_up h q c) a n k f lo hi := by
  rcases hs with ⟨z, e⟩ | z
  · exact Or.inl ⟨pm_ne hne z, e⟩
  · exact Or.inr (pm_ne hne z)
set_option maxRecDepth 10000 in
set_option maxHeartbeats 4000000 in
theorem c_X5_begin {h : pm_H} {s t : Int64} (ht : h.2 12 = some (at_seed s)) : pm_C0 e_X5_begin [.ref 12, .long t] h (pm_up h 12 (at_seed t)) := by
  refine pm_enter rfl (Nat.le_of_ble_eq_true rfl) ?_
  show pm_V e_X5_begin 0 [some (.ref 12), some (.long t), none] [] h (0, 0) _
  refine r_aload_0 d_X5_begin_0 ?_
  refine r_lload_1 d_X5_begin_1 ?_
  refine r_put d_X5_begin_2 s5_s ht (Nat.le_of_ble_eq_true rfl) ⟨rfl, rfl⟩ ?_
  refine r_return d_X5_begin_5 rfl ?_
  exact ⟨rfl, rfl⟩
set_option maxRecDepth 10000 in
set_option maxHeartbeats 4000000 in
theorem c_X5_nextBelow {h : pm_H} {m : Nat} {s : Int64} (ht : h.2 12 = some (at_seed s)) (hm : 1 ≤ m ∧ m ≤ 60) : pm_Cv e_X5_nextBelow [.ref 12, .int (nI m)] h (.int (nI (sp_un (sp_seed s) m))) (pm_up h 12 (at_seed (sp_seed s))) := by
  have hb := pm_ush33_lt (sp_seed s)
  have hq := Nat.mod_lt ((sp_seed s).toUInt64.toNat / 2 ^ 33) (show 0 < m by omega)
  refine pm_enter rfl (Nat.le_of_ble_eq_true rfl) ?_
  show pm_V e_X5_nextBelow 0 [some (.ref 12), some (.int (nI m))] [] h (0, 0) _
  refine r_aload_0 d_X5_nextBelow_0 ?_
  refine r_aload_0 d_X5_nextBelow_1 ?_
  refine r_get d_X5_nextBelow_2 s5_s ht rfl ?_
  refine r_pushl d_X5_nextBelow_5 ?_
  refine r_lmul d_X5_nextBelow_8 ?_
  refine r_pushl d_X5_nextBelow_9 ?_
  refine r_ladd d_X5_nextBelow_12 ?_
  refine r_put d_X5_nextBelow_13 s5_s ht (Nat.le_of_ble_eq_true rfl) ⟨rfl, rfl⟩ ?_
  refine r_iload_1 d_X5_nextBelow_16 ?_
  refine r_push (v := nI 1) d_X5_nextBelow_17 ?_
  refine r_icmp_ge d_X5_nextBelow_18 (fun c18 => ?_) (fun c18 => ?_)
  · -- taken at 18
    have c18 : 1 ≤ m := (nI_leI (a := 1) (b := m) (by omega) (by omega)).mp c18
    refine r_aload_0 d_X5_nextBelow_25 ?_
    refine r_get d_X5_nextBelow_26 s5_s rfl rfl ?_
    refine r_push (v := nI 33) d_X5_nextBelow_29 ?_
    refine r_lushr d_X5_nextBelow_31 ?_
    rw [show (s * 6364136223846793005 + 1442695040888963407 : Int64) = sp_seed s from rfl, pm_ush33]
    refine r_iload_1 d_X5_nextBelow_32 ?_
    refine r_i2l d_X5_nextBelow_33 ?_
    rw [nI_l (n := m) (by omega)]
    refine r_lrem d_X5_nextBelow_34 (pm_lne0 (n := m) (by omega) (by omega)) ?_
    rw [pk_lRem (a := ((sp_seed s).toUInt64.toNat / 2 ^ 33)) (b := m) (by omega) (by omega) (by omega)]
    refine r_l2i d_X5_nextBelow_35 ?_
    rw [lN_i]
    refine r_ireturn d_X5_nextBelow_36 ⟨_, rfl, rfl⟩ ?_
    first | (exfalso; omega; done) | exact ⟨rfl, rfl⟩
  · -- not taken at 18
    have c18 : ¬ 1 ≤ m := fun zz9 => c18 ((nI_leI (a := 1) (b := m) (by omega) (by omega)).mpr zz9)
    refine r_push (v := nI 0) d_X5_nextBelow_21 ?_
    refine r_goto d_X5_nextBelow_22 ?_
    refine r_ireturn d_X5_nextBelow_36 ⟨_, rfl, rfl⟩ ?_
    first | (exfalso; omega; done) | exact ⟨rfl, rfl⟩
set_option maxRecDepth 10000 in
set_option maxHeartbeats 4000000 in
theorem c_X1_castLine {h : pm_H} {a : Nat} : pm_Cv e_X1_castLine [.ref a, .ref 12] h (.int (nI 7)) h := by
  refine pm_enter rfl (Nat.le_of_ble_eq_true rfl) ?_
  show pm_V e_X1_castLine 0 [some (.ref a), some (.ref 12)] [] h (0, 0) _
  refine r_push (v := nI 7) d_X1_castLine_0 ?_
  refine r_ireturn d_X1_castLine_2 ⟨_, rfl, rfl⟩ ?_
  exact ⟨rfl, rfl⟩
set_option maxRecDepth 10000 in
set_option maxHeartbeats 4000000 in
theorem c_X2_castLine {h : pm_H} {a : Nat} {s : Int64} (hs : h.2 12 = some (at_seed s)) : pm_Cv e_X2_castLine [.ref a, .ref 12] h (.int (nI (sp_coin (sp_un (sp_seed s) 8)))) (pm_up h 12 (at_seed (sp_seed s))) := by
  have hu := sp_un_lt (s := sp_seed s) (m := 8) (by decide)
  refine pm_enter rfl (Nat.le_of_ble_eq_true rfl) ?_
  show pm_V e_X2_castLine 0 [some (.ref a), some (.ref 12), none] [] h (0, 0) _
  refine r_aload_1 d_X2_castLine_0 ?_
  refine r_push (v := nI 8) d_X2_castLine_1 ?_
  refine r_V1 d_X2_castLine_3 (c_X5_nextBelow hs (by decide)) hs rfl rfl ⟨rfl, rfl⟩ (Nat.le_of_ble_eq_true rfl) ?_
  refine r_istore_2 d_X2_castLine_6 (Nat.le_of_ble_eq_true rfl) (fun w hw => by cases hw <;> rfl) ?_
  refine r_iload_2 d_X2_castLine_7 ?_
  refine r_if_ne d_X2_castLine_8 (fun c8 => ?_) (fun c8 => ?_)
  · -- taken at 8
    have c8 : ¬ (sp_un (sp_seed s) 8) = 0 := fun zz9 => c8 ((nI_eq (a := (sp_un (sp_seed s) 8)) (b := 0) (by omega) (by omega)).mpr zz9)
    refine r_iload_2 d_X2_castLine_14 ?_
    refine r_push (v := nI 3) d_X2_castLine_15 ?_
    refine r_icmp_gt d_X2_castLine_16 (fun c16 => ?_) (fun c16 => ?_)
    · -- taken at 16
      have c16 : 3 < (sp_un (sp_seed s) 8) := (nI_ltI (a := 3) (b := (sp_un (sp_seed s) 8)) (by omega) (by omega)).mp c16
      refine r_iload_2 d_X2_castLine_22 ?_
      refine r_push (v := nI 6) d_X2_castLine_23 ?_
      refine r_icmp_gt d_X2_castLine_25 (fun c25 => ?_) (fun c25 => ?_)
      · -- taken at 25
        have c25 : 6 < (sp_un (sp_seed s) 8) := (nI_ltI (a := 6) (b := (sp_un (sp_seed s) 8)) (by omega) (by omega)).mp c25
        refine r_push (v := nI 9) d_X2_castLine_33 ?_
        refine r_ireturn d_X2_castLine_35 ⟨_, rfl, rfl⟩ ?_
        exact ⟨congrArg (fun z => some (Value.int (nI z))) (by unfold sp_coin; split <;> (try split) <;> (try split) <;> omega), rfl⟩
      · -- not taken at 25
        have c25 : ¬ 6 < (sp_un (sp_seed s) 8) := fun zz9 => c25 ((nI_ltI (a := 6) (b := (sp_un (sp_seed s) 8)) (by omega) (by omega)).mpr zz9)
        refine r_push (v := nI 8) d_X2_castLine_28 ?_
        refine r_goto d_X2_castLine_30 ?_
        refine r_ireturn d_X2_castLine_35 ⟨_, rfl, rfl⟩ ?_
        exact ⟨congrArg (fun z => some (Value.int (nI z))) (by unfold sp_coin; split <;> (try split) <;> (try split) <;> omega), rfl⟩
    · -- not taken at 16
      have c16 : ¬ 3 < (sp_un (sp_seed s) 8) := fun zz9 => c16 ((nI_ltI (a := 3) (b := (sp_un (sp_seed s) 8)) (by omega) (by omega)).mpr zz9)
      refine r_push (v := nI 7) d_X2_castLine_19 ?_
      refine r_ireturn d_X2_castLine_21 ⟨_, rfl, rfl⟩ ?_
      exact ⟨congrArg (fun z => some (Value.int (nI z))) (by unfold sp_coin; split <;> (try split) <;> (try split) <;> omega), rfl⟩
  · -- not taken at 8
    have c8 : (sp_un (sp_seed s) 8) = 0 := (nI_eq (a := (sp_un (sp_seed s) 8)) (b := 0) (by omega) (by omega)).mp c8
    refine r_push (v := nI 6) d_X2_castLine_11 ?_
    refine r_ireturn d_X2_castLine_13 ⟨_, rfl, rfl⟩ ?_
    exact ⟨congrArg (fun z => some (Value.int (nI z))) (by unfold sp_coin; split <;> (try split) <;> (try split) <;> omega), rfl⟩
set_option maxRecDepth 10000 in
set_option maxHeartbeats 4000000 in
theorem lp_X6_castLine {h : pm_H} {a n k f lo hi : Nat} (hs0 : pm_sk h a n k f lo hi) (ok : pm_ok n k f lo hi) (ha : a ≠ 12) {F : Option Value → pm_H → Prop} {b : Nat × Nat} : ∀ (r j m : Nat) (s : Int64), j + r = 3 → m ≤ 60 →
    F (some (.int (nI ((sp_cl k f lo hi r m s).1 / k)))) (pm_up h 12 (at_seed (sp_cl k f lo hi r m s).2)) →
    pm_V e_X6_castLine 7 [some (.ref a), some (.ref 12), some (.int (nI m)), some (.int (nI j))] [] (pm_up h 12 (at_seed s)) b F := by
  intro r
  have g := ok
  obtain ⟨g1, g2, g3, g4, g5, g6, g7, g8⟩ := ok
  induction r with
  | zero =>
    intro j m s hj hm hF
    have hs := pm_sk_up (c := at_seed s) hs0 ha
    have hq := hs0
    rcases hq with ⟨hr, -⟩ | hr
    ·
      refine r_iload_3 d_X6_castLine_7 ?_
      refine r_push (v := nI 3) d_X6_castLine_8 ?_
      refine r_icmp_ge d_X6_castLine_9 (fun c9 => ?_) (fun c9 => ?_)
      · -- taken at 9
        have c9 : 3 ≤ j := (nI_leI (a := 3) (b := j) (by omega) (by omega)).mp c9
        refine r_aload_0 d_X6_castLine_44 ?_
        refine r_iload_2 d_X6_castLine_45 ?_
        refine r_V1 d_X6_castLine_46_6 (c_X6_lineOf hs g hm) (pm_ne ha hr) rfl rfl ⟨rfl, rfl⟩ (Nat.le_of_ble_eq_true rfl) ?_
        refine r_ireturn d_X6_castLine_49 ⟨_, rfl, rfl⟩ ?_
        exact hF
      · -- not taken at 9
        have c9 : ¬ 3 ≤ j := fun zz9 => c9 ((nI_leI (a := 3) (b := j) (by omega) (by omega)).mpr zz9)
        exfalso; omega
    ·
      refine r_iload_3 d_X6_castLine_7 ?_
      refine r_push (v := nI 3) d_X6_castLine_8 ?_
      refine r_icmp_ge d_X6_castLine_9 (fun c9 => ?_) (fun c9 => ?_)
      · -- taken at 9
        have c9 : 3 ≤ j := (nI_leI (a := 3) (b := j) (by omega) (by omega)).mp c9
        refine r_aload_0 d_X6_castLine_44 ?_
        refine r_iload_2 d_X6_castLine_45 ?_
        refine r_V1 d_X6_castLine_46_7 (c_X6_lineOf hs g hm) (pm_ne ha hr) rfl rfl ⟨rfl, rfl⟩ (Nat.le_of_ble_eq_true rfl) ?_
        refine r_ireturn d_X6_castLine_49 ⟨_, rfl, rfl⟩ ?_
        exact hF
      · -- not taken at 9
        have c9 : ¬ 3 ≤ j := fun zz9 => c9 ((nI_leI (a := 3) (b := j) (by omega) (by omega)).mpr zz9)
        exfalso; omega
  | succ r ih =>
    intro j m s hj hm hF
    have hs := pm_sk_up (c := at_seed s) hs0 ha
    have hq := hs0
    unfold sp_cl at hF
    by_cases hm2 : m < 2
    · rw [if_pos hm2] at hF
      rcases hq with ⟨hr, -⟩ | hr
      ·
        refine r_iload_3 d_X6_castLine_7 ?_
        refine r_push (v := nI 3) d_X6_castLine_8 ?_
        refine r_icmp_ge d_X6_castLine_9 (fun c9 => ?_) (fun c9 => ?_)
        · -- taken at 9
          have c9 : 3 ≤ j := (nI_leI (a := 3) (b := j) (by omega) (by omega)).mp c9
          refine r_aload_0 d_X6_castLine_44 ?_
          refine r_iload_2 d_X6_castLine_45 ?_
          refine r_V1 d_X6_castLine_46_6 (c_X6_lineOf hs g hm) (pm_ne ha hr) rfl rfl ⟨rfl, rfl⟩ (Nat.le_of_ble_eq_true rfl) ?_
          refine r_ireturn d_X6_castLine_49 ⟨_, rfl, rfl⟩ ?_
          first | (exfalso; omega; done) | exact hF
        · -- not taken at 9
          have c9 : ¬ 3 ≤ j := fun zz9 => c9 ((nI_leI (a := 3) (b := j) (by omega) (by omega)).mpr zz9)
          refine r_iload_2 d_X6_castLine_12 ?_
          refine r_push (v := nI 2) d_X6_castLine_13 ?_
          refine r_icmp_lt d_X6_castLine_14 (fun c14 => ?_) (fun c14 => ?_)
          · -- taken at 14
            have c14 : m < 2 := (nI_ltI (a := m) (b := 2) (by omega) (by omega)).mp c14
            refine r_aload_0 d_X6_castLine_44 ?_
            refine r_iload_2 d_X6_castLine_45 ?_
            refine r_V1 d_X6_castLine_46_6 (c_X6_lineOf hs g hm) (pm_ne ha hr) rfl rfl ⟨rfl, rfl⟩ (Nat.le_of_ble_eq_true rfl) ?_
            refine r_ireturn d_X6_castLine_49 ⟨_, rfl, rfl⟩ ?_
            first | (exfalso; omega; done) | exact hF
          · -- not taken at 14
            have c14 : ¬ m < 2 := fun zz9 => c14 ((nI_ltI (a := m) (b := 2) (by omega) (by omega)).mpr zz9)
            exfalso; omega
      ·
        refine r_iload_3 d_X6_castLine_7 ?_
        refine r_push (v := nI 3) d_X6_castLine_8 ?_
        refine r_icmp_ge d_X6_castLine_9 (fun c9 => ?_) (fun c9 => ?_)
        · -- taken at 9
          have c9 : 3 ≤ j := (nI_leI (a := 3) (b := j) (by omega) (by omega)).mp c9
          refine r_aload_0 d_X6_castLine_44 ?_
          refine r_iload_2 d_X6_castLine_45 ?_
          refine r_V1 d_X6_castLine_46_7 (c_X6_lineOf hs g hm) (pm_ne ha hr) rfl rfl ⟨rfl, rfl⟩ (Nat.le_of_ble_eq_true rfl) ?_
          refine r_ireturn d_X6_castLine_49 ⟨_, rfl, rfl⟩ ?_
          first | (exfalso; omega; done) | exact hF
        · -- not taken at 9
          have c9 : ¬ 3 ≤ j := fun zz9 => c9 ((nI_leI (a := 3) (b := j) (by omega) (by omega)).mpr zz9)
          refine r_iload_2 d_X6_castLine_12 ?_
          refine r_push (v := nI 2) d_X6_castLine_13 ?_
          refine r_icmp_lt d_X6_castLine_14 (fun c14 => ?_) (fun c14 => ?_)
          · -- taken at 14
            have c14 : m < 2 := (nI_ltI (a := m) (b := 2) (by omega) (by omega)).mp c14
            refine r_aload_0 d_X6_castLine_44 ?_
            refine r_iload_2 d_X6_castLine_45 ?_
            refine r_V1 d_X6_castLine_46_7 (c_X6_lineOf hs g hm) (pm_ne ha hr) rfl rfl ⟨rfl, rfl⟩ (Nat.le_of_ble_eq_true rfl) ?_
            refine r_ireturn d_X6_castLine_49 ⟨_, rfl, rfl⟩ ?_
            first | (exfalso; omega; done) | exact hF
          · -- not taken at 14
            have c14 : ¬ m < 2 := fun zz9 => c14 ((nI_ltI (a := m) (b := 2) (by omega) (by omega)).mpr zz9)
            exfalso; omega
    · rw [if_neg hm2] at hF
      have hp := sp_places_in (n := m) (by omega) g6 g7 g8
      have hu := sp_un_lt (s := sp_seed s) (m := sp_places lo hi m) (by omega)
      have hf := sp_first_in (lo := lo) (n := m) (by omega) g6
      have hlt := sp_left_lt (k := k) (f := f) (n := m) (a := sp_first lo m + sp_un (sp_seed s) (sp_places lo hi m)) (by omega) (by omega) (by omega)
      have hs2 := pm_sk_up (c := at_seed (sp_seed s)) hs0 ha
      rcases hq with ⟨hr, e1, e2⟩ | hr
      ·
        subst e1 e2
        have e1 : sp_first 1 m = 1 := by unfold sp_first; split <;> omega
        rw [e1] at hF hf hlt
        refine r_iload_3 d_X6_castLine_7 ?_
        refine r_push (v := nI 3) d_X6_castLine_8 ?_
        refine r_icmp_ge d_X6_castLine_9 (fun c9 => ?_) (fun c9 => ?_)
        · -- taken at 9
          have c9 : 3 ≤ j := (nI_leI (a := 3) (b := j) (by omega) (by omega)).mp c9
          exfalso; omega
        · -- not taken at 9
          have c9 : ¬ 3 ≤ j := fun zz9 => c9 ((nI_leI (a := 3) (b := j) (by omega) (by omega)).mpr zz9)
          refine r_iload_2 d_X6_castLine_12 ?_
          refine r_push (v := nI 2) d_X6_castLine_13 ?_
          refine r_icmp_lt d_X6_castLine_14 (fun c14 => ?_) (fun c14 => ?_)
          · -- taken at 14
            have c14 : m < 2 := (nI_ltI (a := m) (b := 2) (by omega) (by omega)).mp c14
            exfalso; omega
          · -- not taken at 14
            have c14 : ¬ m < 2 := fun zz9 => c14 ((nI_ltI (a := m) (b := 2) (by omega) (by omega)).mpr zz9)
            refine r_aload_0 d_X6_castLine_17 ?_
            refine r_iload_2 d_X6_castLine_18 ?_
            refine r_aload_0 d_X6_castLine_19 ?_
            refine r_iload_2 d_X6_castLine_20 ?_
            refine r_V1 d_X6_castLine_21_6 (c_X6_firstPlace ⟨by omega, hm⟩) (pm_ne ha hr) rfl rfl ⟨rfl, rfl⟩ (Nat.le_of_ble_eq_true rfl) ?_
            refine r_aload_1 d_X6_castLine_24 ?_
            refine r_aload_0 d_X6_castLine_25 ?_
            refine r_iload_2 d_X6_castLine_26 ?_
            refine r_V1 d_X6_castLine_27_6 (c_X6_placesOf hs g ⟨by omega, hm⟩) (pm_ne ha hr) rfl rfl ⟨rfl, rfl⟩ (Nat.le_of_ble_eq_true rfl) ?_
            refine r_V1 d_X6_castLine_30 (c_X5_nextBelow rfl ⟨by omega, by omega⟩) rfl rfl rfl ⟨rfl, rfl⟩ (Nat.le_of_ble_eq_true rfl) ?_
            rw [pm_up_up]
            refine r_iadd d_X6_castLine_33 ?_
            rw [nI_add]
            refine r_V2 d_X6_castLine_34_6 (c_X6_leftOf hs2 g hm ⟨by omega, by omega⟩) (pm_ne ha hr) rfl rfl ⟨rfl, rfl⟩ (Nat.le_of_ble_eq_true rfl) ?_
            refine r_istore_2 d_X6_castLine_37 (Nat.le_of_ble_eq_true rfl) (fun w hw => by cases hw <;> rfl) ?_
            refine r_iinc_3 d_X6_castLine_38 (Nat.le_of_ble_eq_true rfl) (fun w hw => by cases hw <;> rfl) ?_
            rw [nI_1]
            refine r_goto d_X6_castLine_41 ?_
            exact ih (j + 1) _ _ (by omega) (by omega) hF
      ·
        refine r_iload_3 d_X6_castLine_7 ?_
        refine r_push (v := nI 3) d_X6_castLine_8 ?_
        refine r_icmp_ge d_X6_castLine_9 (fun c9 => ?_) (fun c9 => ?_)
        · -- taken at 9
          have c9 : 3 ≤ j := (nI_leI (a := 3) (b := j) (by omega) (by omega)).mp c9
          exfalso; omega
        · -- not taken at 9
          have c9 : ¬ 3 ≤ j := fun zz9 => c9 ((nI_leI (a := 3) (b := j) (by omega) (by omega)).mpr zz9)
          refine r_iload_2 d_X6_castLine_12 ?_
          refine r_push (v := nI 2) d_X6_castLine_13 ?_
          refine r_icmp_lt d_X6_castLine_14 (fun c14 => ?_) (fun c14 => ?_)
          · -- taken at 14
            have c14 : m < 2 := (nI_ltI (a := m) (b := 2) (by omega) (by omega)).mp c14
            exfalso; omega
          · -- not taken at 14
            have c14 : ¬ m < 2 := fun zz9 => c14 ((nI_ltI (a := m) (b := 2) (by omega) (by omega)).mpr zz9)
            refine r_aload_0 d_X6_castLine_17 ?_
            refine r_iload_2 d_X6_castLine_18 ?_
            refine r_aload_0 d_X6_castLine_19 ?_
            refine r_iload_2 d_X6_castLine_20 ?_
            refine r_V1 d_X6_castLine_21_7 (c_X7_firstPlace (pm_ne ha hr) g ⟨by omega, hm⟩) (pm_ne ha hr) rfl rfl ⟨rfl, rfl⟩ (Nat.le_of_ble_eq_true rfl) ?_
            refine r_aload_1 d_X6_castLine_24 ?_
            refine r_aload_0 d_X6_castLine_25 ?_
            refine r_iload_2 d_X6_castLine_26 ?_
            refine r_V1 d_X6_castLine_27_7 (c_X6_placesOf hs g ⟨by omega, hm⟩) (pm_ne ha hr) rfl rfl ⟨rfl, rfl⟩ (Nat.le_of_ble_eq_true rfl) ?_
            refine r_V1 d_X6_castLine_30 (c_X5_nextBelow rfl ⟨by omega, by omega⟩) rfl rfl rfl ⟨rfl, rfl⟩ (Nat.le_of_ble_eq_true rfl) ?_
            rw [pm_up_up]
            refine r_iadd d_X6_castLine_33 ?_
            rw [nI_add]
            refine r_V2 d_X6_castLine_34_7 (c_X6_leftOf hs2 g hm ⟨by omega, by omega⟩) (pm_ne ha hr) rfl rfl ⟨rfl, rfl⟩ (Nat.le_of_ble_eq_true rfl) ?_
            refine r_istore_2 d_X6_castLine_37 (Nat.le_of_ble_eq_true rfl) (fun w hw => by cases hw <;> rfl) ?_
            refine r_iinc_3 d_X6_castLine_38 (Nat.le_of_ble_eq_true rfl) (fun w hw => by cases hw <;> rfl) ?_
            rw [nI_1]
            refine r_goto d_X6_castLine_41 ?_
            exact ih (j + 1) _ _ (by omega) (by omega) hF
set_option maxRecDepth 10000 in
set_option maxHeartbeats 4000000 in
theorem c_X6_castLine {h : pm_H} {a n k f lo hi : Nat} {s : Int64} (ht : pm_sk h a n k f lo hi) (ok : pm_ok n k f lo hi) (ha : a ≠ 12) (hsd : h.2 12 = some (at_seed s)) : pm_Cv e_X6_castLine [.ref a, .ref 12] h (.int (nI ((sp_cl k f lo hi 3 n s).1 / k))) (pm_up h 12 (at_seed (sp_cl k f lo hi 3 n s).2)) := by
  have hs0 := ht
  have g := ok
  obtain ⟨g1, g2, g3, g4, g5, g6, g7, g8⟩ := ok
  have eh : pm_up h 12 (at_seed s) = h := pm_up_self hsd
  rcases ht with ⟨ht, -⟩ | ht
  ·
    refine pm_enter rfl (Nat.le_of_ble_eq_true rfl) ?_
    show pm_V e_X6_castLine 0 [some (.ref a), some (.ref 12), none, none] [] h (0, 0) _
    refine r_aload_0 d_X6_castLine_0 ?_
    refine r_get d_X6_castLine_1 s6_bundle ht rfl ?_
    refine r_istore_2 d_X6_castLine_4 (Nat.le_of_ble_eq_true rfl) (fun w hw => by cases hw <;> rfl) ?_
    refine r_push (v := nI 0) d_X6_castLine_5 ?_
    refine r_istore_3 d_X6_castLine_6 (Nat.le_of_ble_eq_true rfl) (fun w hw => by cases hw <;> rfl) ?_
    have K := lp_X6_castLine (b := (0, 0)) hs0 g ha 3 0 n s rfl g2 (F := fun v h1 => v = some (.int (nI ((sp_cl k f lo hi 3 n s).1 / k))) ∧ h1 = pm_up h 12 (at_seed (sp_cl k f lo hi 3 n s).2)) ⟨rfl, rfl⟩
    rw [eh] at K
    exact K
  ·
    refine pm_enter rfl (Nat.le_of_ble_eq_true rfl) ?_
    show pm_V e_X6_castLine 0 [some (.ref a), some (.ref 12), none, none] [] h (0, 0) _
    refine r_aload_0 d_X6_castLine_0 ?_
    refine r_get d_X6_castLine_1 s7_bundle ht rfl ?_
    refine r_istore_2 d_X6_castLine_4 (Nat.le_of_ble_eq_true rfl) (fun w hw => by cases hw <;> rfl) ?_
    refine r_push (v := nI 0) d_X6_castLine_5 ?_
    refine r_istore_3 d_X6_castLine_6 (Nat.le_of_ble_eq_true rfl) (fun w hw => by cases hw <;> rfl) ?_
    have K := lp_X6_castLine (b := (0, 0)) hs0 g ha 3 0 n s rfl g2 (F := fun v h1 => v = some (.int (nI ((sp_cl k f lo hi 3 n s).1 / k))) ∧ h1 = pm_up h 12 (at_seed (sp_cl k f lo hi 3 n s).2)) ⟨rfl, rfl⟩
    rw [eh] at K
    exact K
