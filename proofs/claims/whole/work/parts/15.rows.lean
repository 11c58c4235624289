/-! rows of bytes -/
def pm_bl (b : Bool) : Nat := if b then 1 else 0
theorem pm_bl_le (b : Bool) : pm_bl b ≤ 1 := by cases b <;> decide
theorem pm_bl0 {b : Bool} : pm_bl b = 0 ↔ b = false := by cases b <;> simp [pm_bl]
theorem pm_blz (b : Bool) : narrow .boolean (.int (nI (pm_bl b))) = .int (nI (pm_bl b)) := by cases b <;> rfl
def sp_num (x : Int32) : Bool := decide (0 ≤ x ∧ x < 64)
def sp_nb (x : Int32) : Nat := x.toNatClampNeg
theorem sp_num_nb {x : Int32} (h : sp_num x = true) : x = nI (sp_nb x) ∧ sp_nb x < 64 := by
  have h1 := of_decide_eq_true h
  obtain ⟨j, hj, e⟩ := nI_of (x := x) (fun z => absurd h1.1 (Int32.not_le.mpr z))
  have : sp_nb x = j := by rw [e]; exact nI_clamp hj
  refine ⟨by rw [this]; exact e, ?_⟩
  rw [this]
  have := h1.2
  rw [e] at this
  exact (nI_ltI (a := j) (b := 64) hj (by decide)).mp this
theorem sp_num_ex {x : Int32} (h : sp_num x = true) : ∃ y, y < 64 ∧ x = nI y ∧ sp_nb x = y := ⟨sp_nb x, (sp_num_nb h).2, (sp_num_nb h).1, rfl⟩
theorem pm_bl1 {b : Bool} (h : ¬ pm_bl b = 0) : b = true := by cases b with
  | true => rfl
  | false => exact absurd rfl h
theorem c_X9_isNumberB {h : pm_H} {x : Int32} : pm_Cv e_X9_isNumber [.int x] h (.int (nI (pm_bl (sp_num x)))) h := by
  refine c_X9_isNumber.mono (fun v h1 z => ⟨?_, z.2⟩)
  rw [z.1]
  refine congrArg (fun z => some (Value.int z)) ?_
  unfold pm_bl sp_num
  by_cases hz : 0 ≤ x ∧ x < 64
  · rw [if_pos hz, if_pos (by simpa using hz)]; rfl
  · rw [if_neg hz, if_neg (by simpa using hz)]; rfl
def sp_m1 (ord : Nat) (v : Nat → Int32) (i : Nat) : Bool := sp_num (v i) && (sp_nb (v i) != (if ord = 0 then i else sp_turn i))
def sp_pt (x : Nat) : Nat := if sp_turn x = x then 63 - sp_turn x else sp_turn x
def sp_m2 (v : Nat → Int32) (z i : Nat) : Bool := decide (i + 1 < z) && (sp_num (v i) && (sp_num (v (i + 1)) && (sp_nb (v (i + 1)) != sp_pt (sp_nb (v i)))))
def sp_isM (ord : Nat) (v : Nat → Int32) (z i : Nat) : Bool := if ord = 2 then sp_m2 v z (i - i % 2) else sp_m1 ord v i
def sp_ct (p : Nat → Bool) : Nat → Nat
  | 0 => 0
  | n + 1 => sp_ct p n + pm_bl (p n)
theorem sp_ct_le (p : Nat → Bool) : ∀ n, sp_ct p n ≤ n
  | 0 => Nat.le_refl _
  | n + 1 => by
    have := sp_ct_le p n
    have h2 := pm_bl_le (p n)
    simp only [sp_ct]; omega
def sp_mp (ord : Nat) (v : Nat → Int32) (z i : Nat) : Bool := if ord = 2 then (i % 2 == 1) && sp_m2 v z (i - 1) else sp_m1 ord v i
def sp_mc (ord : Nat) (v : Nat → Int32) (z : Nat) : Nat := sp_ct (sp_mp ord v z) z
theorem sp_turn_lt : ∀ x, x < 64 → sp_turn x < 64 := by decide +kernel
theorem pm_even : ∀ i, i < 65 → nI i &&& (-2) = nI (i - i % 2) := by decide +kernel
theorem pm_rowB {h : pm_H} {x : Int32} : True := trivial
set_option maxRecDepth 10000 in
set_option maxHeartbeats 4000000 in
theorem c_X0_isThere {h : pm_H} {a l : Nat} {sz : Int32} (ha : h.2 a = some (.inr (0, [.ref l, .int sz]))) : pm_Cv e_X0_isThere [.ref a] h (.int (nI (pm_bl (decide (0 ≤ sz))))) h := by
  refine pm_enter rfl (Nat.le_of_ble_eq_true rfl) ?_
  show pm_V e_X0_isThere 0 [some (.ref a)] [] h (0, 0) _
  refine r_aload_0 d_X0_isThere_0 ?_
  refine r_get d_X0_isThere_1 s0_size ha rfl ?_
  refine r_if_lt d_X0_isThere_4 (fun c4 => ?_) (fun c4 => ?_)
  · -- taken at 4
    refine r_push (v := nI 0) d_X0_isThere_11 ?_
    refine r_ireturn d_X0_isThere_12 ⟨_, rfl, rfl⟩ ?_
    exact ⟨congrArg (fun z => some (Value.int (nI z))) (by simp [pm_bl, Int32.not_lt, Int32.not_le, *]), rfl⟩
  · -- not taken at 4
    refine r_push (v := nI 1) d_X0_isThere_7 ?_
    refine r_goto d_X0_isThere_8 ?_
    refine r_ireturn d_X0_isThere_12 ⟨_, rfl, rfl⟩ ?_
    exact ⟨congrArg (fun z => some (Value.int (nI z))) (by simp [pm_bl, Int32.not_lt, Int32.not_le, *]), rfl⟩
set_option maxRecDepth 10000 in
set_option maxHeartbeats 4000000 in
theorem c_X0_begin {h : pm_H} {a l : Nat} {v : Nat → Int32} {sz n : Int32} (hal : a ≠ l) (ha : h.2 a = some (.inr (0, [.ref l, .int sz]))) (hl : h.2 l = some (at_Y 64 v)) : pm_C0 e_X0_begin [.ref a, .int n] h (pm_up (pm_up h l (at_Y 64 (pm_fl (nI 0) v 64))) a (.inr (0, [.ref l, .int n]))) := by
  refine pm_enter rfl (Nat.le_of_ble_eq_true rfl) ?_
  show pm_V e_X0_begin 0 [some (.ref a), some (.int n)] [] h (0, 0) _
  refine r_aload_0 d_X0_begin_0 ?_
  refine r_get d_X0_begin_1 s0_bytes ha rfl ?_
  refine r_push (v := nI 0) d_X0_begin_4 ?_
  refine r_S2v d_X0_begin_5 (c_J7_fill_031fb (by decide) hl) ⟨rfl, rfl⟩ (Nat.le_of_ble_eq_true rfl) ?_
  refine r_aload_0 d_X0_begin_8 ?_
  refine r_iload_1 d_X0_begin_9 ?_
  refine r_put d_X0_begin_10 s0_size (pm_ne hal ha) (Nat.le_of_ble_eq_true rfl) ⟨rfl, rfl⟩ ?_
  refine r_return d_X0_begin_13 rfl ?_
  exact ⟨rfl, rfl⟩
set_option maxRecDepth 10000 in
set_option maxHeartbeats 4000000 in
theorem c_X0_hasBytes {h : pm_H} {a l : Nat} {i n sz : Int32} (ha : h.2 a = some (.inr (0, [.ref l, .int sz]))) : pm_Cv e_X0_hasBytes [.ref a, .int i, .int n] h (.int (nI (pm_bl (decide (0 ≤ i ∧ i ≤ sz - n))))) h := by
  refine pm_enter rfl (Nat.le_of_ble_eq_true rfl) ?_
  show pm_V e_X0_hasBytes 0 [some (.ref a), some (.int i), some (.int n)] [] h (0, 0) _
  refine r_iload_1 d_X0_hasBytes_0 ?_
  refine r_if_lt d_X0_hasBytes_1 (fun c1 => ?_) (fun c1 => ?_)
  · -- taken at 1
    have c1 := Int32.not_le.mpr c1
    refine r_push (v := nI 0) d_X0_hasBytes_18 ?_
    refine r_ireturn d_X0_hasBytes_19 ⟨_, rfl, rfl⟩ ?_
    exact ⟨congrArg (fun z => some (Value.int (nI z))) (by simp [pm_bl, *]), rfl⟩
  · -- not taken at 1
    have c1 := Int32.not_lt.mp c1
    refine r_iload_1 d_X0_hasBytes_4 ?_
    refine r_aload_0 d_X0_hasBytes_5 ?_
    refine r_get d_X0_hasBytes_6 s0_size ha rfl ?_
    refine r_iload_2 d_X0_hasBytes_9 ?_
    refine r_isub d_X0_hasBytes_10 ?_
    refine r_icmp_gt d_X0_hasBytes_11 (fun c11 => ?_) (fun c11 => ?_)
    · -- taken at 11
      have c11 := Int32.not_le.mpr c11
      refine r_push (v := nI 0) d_X0_hasBytes_18 ?_
      refine r_ireturn d_X0_hasBytes_19 ⟨_, rfl, rfl⟩ ?_
      exact ⟨congrArg (fun z => some (Value.int (nI z))) (by simp [pm_bl, *]), rfl⟩
    · -- not taken at 11
      have c11 := Int32.not_lt.mp c11
      refine r_push (v := nI 1) d_X0_hasBytes_14 ?_
      refine r_goto d_X0_hasBytes_15 ?_
      refine r_ireturn d_X0_hasBytes_19 ⟨_, rfl, rfl⟩ ?_
      exact ⟨congrArg (fun z => some (Value.int (nI z))) (by simp [pm_bl, *]), rfl⟩
def sp_sw (v : Nat → Int32) (i j : Nat) : Nat → Int32 := upd (upd v i (v j)) j (v i)
set_option maxRecDepth 10000 in
set_option maxHeartbeats 4000000 in
theorem c_X0_changePlaces {h : pm_H} {a l i j : Nat} {sz : Int32} {v : Nat → Int32} (hal : a ≠ l) (ha : h.2 a = some (.inr (0, [.ref l, .int sz]))) (hl : h.2 l = some (at_Y 64 v)) (hi : i < 64) (hj : j < 64) (hb : ∀ j, vp_nar .byte (v j) = v j) : pm_C0 e_X0_changePlaces [.ref a, .int (nI i), .int (nI j)] h (pm_up h l (at_Y 64 (sp_sw v i j))) := by
  refine pm_enter rfl (Nat.le_of_ble_eq_true rfl) ?_
  show pm_V e_X0_changePlaces 0 [some (.ref a), some (.int (nI i)), some (.int (nI j)), none] [] h (0, 0) _
  refine r_aload_0 d_X0_changePlaces_0 ?_
  refine r_get d_X0_changePlaces_1 s0_bytes ha rfl ?_
  refine r_iload_1 d_X0_changePlaces_4 ?_
  refine r_bald d_X0_changePlaces_5 hl (pm_ixN hi (by decide)) ?_
  refine r_istore_3 d_X0_changePlaces_6 (Nat.le_of_ble_eq_true rfl) (fun w hw => by cases hw <;> rfl) ?_
  refine r_aload_0 d_X0_changePlaces_7 ?_
  refine r_get d_X0_changePlaces_8 s0_bytes ha rfl ?_
  refine r_iload_1 d_X0_changePlaces_11 ?_
  refine r_aload_0 d_X0_changePlaces_12 ?_
  refine r_get d_X0_changePlaces_13 s0_bytes ha rfl ?_
  refine r_iload_2 d_X0_changePlaces_16 ?_
  refine r_bald d_X0_changePlaces_17 hl (pm_ixN hj (by decide)) ?_
  refine r_bast d_X0_changePlaces_18 hl (pm_ixN hi (by decide)) ?_
  rw [hb]
  refine r_aload_0 d_X0_changePlaces_19 ?_
  refine r_get d_X0_changePlaces_20 s0_bytes (pm_ne hal ha) rfl ?_
  refine r_iload_2 d_X0_changePlaces_23 ?_
  refine r_iload_3 d_X0_changePlaces_24 ?_
  refine r_bast d_X0_changePlaces_25 pm_same (pm_ixN hj (by decide)) ?_
  refine r_return d_X0_changePlaces_26 rfl ?_
  rw [hb, pm_up_up]
  exact ⟨rfl, rfl⟩
set_option maxRecDepth 10000 in
set_option maxHeartbeats 4000000 in
theorem c_X0_isMisfitPair {h : pm_H} {a l z : Nat} {v : Nat → Int32} (ha : h.2 a = some (.inr (0, [.ref l, .int (nI z)]))) (hl : h.2 l = some (at_Y 64 v)) (hz : z ≤ 64) {i : Nat} (hi : i < 64) : pm_Cv e_X0_isMisfitPair [.ref a, .int (nI i)] h (.int (nI (pm_bl (sp_m2 v z i)))) h := by
  refine pm_enter rfl (Nat.le_of_ble_eq_true rfl) ?_
  show pm_V e_X0_isMisfitPair 0 [some (.ref a), some (.int (nI i)), none] [] h (0, 0) _
  refine r_iload_1 d_X0_isMisfitPair_0 ?_
  refine r_push (v := nI 1) d_X0_isMisfitPair_1 ?_
  refine r_iadd d_X0_isMisfitPair_2 ?_
  rw [nI_add]
  refine r_aload_0 d_X0_isMisfitPair_3 ?_
  refine r_get d_X0_isMisfitPair_4 s0_size ha rfl ?_
  refine r_icmp_ge d_X0_isMisfitPair_7 (fun c7 => ?_) (fun c7 => ?_)
  · -- taken at 7
    have c7 : z ≤ (i + 1) := (nI_leI (a := z) (b := (i + 1)) (by omega) (by omega)).mp c7
    have hm : sp_m2 v z i = false := by simp [sp_m2, Nat.not_lt.mpr c7]
    refine r_push (v := nI 0) d_X0_isMisfitPair_36 ?_
    refine r_ireturn d_X0_isMisfitPair_37 ⟨_, rfl, rfl⟩ ?_
    rw [hm]
    exact ⟨rfl, rfl⟩
  · -- not taken at 7
    have c7 : ¬ z ≤ (i + 1) := fun zz9 => c7 ((nI_leI (a := z) (b := (i + 1)) (by omega) (by omega)).mpr zz9)
    refine r_aload_0 d_X0_isMisfitPair_10 ?_
    refine r_get d_X0_isMisfitPair_11 s0_bytes ha rfl ?_
    refine r_iload_1 d_X0_isMisfitPair_14 ?_
    refine r_bald d_X0_isMisfitPair_15 hl (pm_ixN (by omega) (by decide)) ?_
    have hbl := pm_bl_le (sp_num (v i))
    refine r_S1 d_X0_isMisfitPair_16 c_X9_isNumberB ⟨rfl, rfl⟩ (Nat.le_of_ble_eq_true rfl) ?_
    refine r_if_eq d_X0_isMisfitPair_19 (fun c19 => ?_) (fun c19 => ?_)
    · -- taken at 19
      have c19 : (pm_bl (sp_num (v i))) = 0 := (nI_eq (a := (pm_bl (sp_num (v i)))) (b := 0) (by omega) (by omega)).mp c19
      have n1 := pm_bl0.mp c19
      have hm : sp_m2 v z i = false := by simp [sp_m2, n1]
      refine r_push (v := nI 0) d_X0_isMisfitPair_36 ?_
      refine r_ireturn d_X0_isMisfitPair_37 ⟨_, rfl, rfl⟩ ?_
      rw [hm]
      exact ⟨rfl, rfl⟩
    · -- not taken at 19
      have c19 : ¬ (pm_bl (sp_num (v i))) = 0 := fun zz9 => c19 ((nI_eq (a := (pm_bl (sp_num (v i)))) (b := 0) (by omega) (by omega)).mpr zz9)
      have n1 := pm_bl1 c19
      obtain ⟨y1, b1, e1, hy1⟩ := sp_num_ex n1
      have tl1 := sp_turn_lt _ b1
      refine r_aload_0 d_X0_isMisfitPair_22 ?_
      refine r_get d_X0_isMisfitPair_23 s0_bytes ha rfl ?_
      refine r_iload_1 d_X0_isMisfitPair_26 ?_
      refine r_push (v := nI 1) d_X0_isMisfitPair_27 ?_
      refine r_iadd d_X0_isMisfitPair_28 ?_
      rw [nI_add]
      refine r_bald d_X0_isMisfitPair_29 hl (pm_ixN (by omega) (by decide)) ?_
      have hbl := pm_bl_le (sp_num (v (i + 1)))
      refine r_S1 d_X0_isMisfitPair_30 c_X9_isNumberB ⟨rfl, rfl⟩ (Nat.le_of_ble_eq_true rfl) ?_
      refine r_if_ne d_X0_isMisfitPair_33 (fun c33 => ?_) (fun c33 => ?_)
      · -- taken at 33
        have c33 : ¬ (pm_bl (sp_num (v (i + 1)))) = 0 := fun zz9 => c33 ((nI_eq (a := (pm_bl (sp_num (v (i + 1))))) (b := 0) (by omega) (by omega)).mpr zz9)
        have n2 := pm_bl1 c33
        obtain ⟨y2, b2, e2, hy2⟩ := sp_num_ex n2
        refine r_aload_0 d_X0_isMisfitPair_38 ?_
        refine r_get d_X0_isMisfitPair_39 s0_bytes ha rfl ?_
        refine r_iload_1 d_X0_isMisfitPair_42 ?_
        refine r_bald d_X0_isMisfitPair_43 hl (pm_ixN (by omega) (by decide)) ?_
        rw [e1]
        refine r_S1 d_X0_isMisfitPair_44 (c_X9_turnedBits b1) ⟨rfl, rfl⟩ (Nat.le_of_ble_eq_true rfl) ?_
        refine r_istore_2 d_X0_isMisfitPair_47 (Nat.le_of_ble_eq_true rfl) (fun w hw => by cases hw <;> rfl) ?_
        refine r_aload_0 d_X0_isMisfitPair_48 ?_
        refine r_get d_X0_isMisfitPair_49 s0_bytes ha rfl ?_
        refine r_iload_1 d_X0_isMisfitPair_52 ?_
        refine r_push (v := nI 1) d_X0_isMisfitPair_53 ?_
        refine r_iadd d_X0_isMisfitPair_54 ?_
        rw [nI_add]
        refine r_bald d_X0_isMisfitPair_55 hl (pm_ixN (by omega) (by decide)) ?_
        rw [e2]
        refine r_iload_2 d_X0_isMisfitPair_56 ?_
        refine r_aload_0 d_X0_isMisfitPair_57 ?_
        refine r_get d_X0_isMisfitPair_58 s0_bytes ha rfl ?_
        refine r_iload_1 d_X0_isMisfitPair_61 ?_
        refine r_bald d_X0_isMisfitPair_62 hl (pm_ixN (by omega) (by decide)) ?_
        rw [e1]
        refine r_icmp_ne d_X0_isMisfitPair_63 (fun c63 => ?_) (fun c63 => ?_)
        · -- taken at 63
          have c63 : ¬ (sp_turn y1) = y1 := fun zz9 => c63 ((nI_eq (a := (sp_turn y1)) (b := y1) (by omega) (by omega)).mpr zz9)
          refine r_iload_2 d_X0_isMisfitPair_73 ?_
          refine r_icmp_eq d_X0_isMisfitPair_74 (fun c74 => ?_) (fun c74 => ?_)
          · -- taken at 74
            have c74 : y2 = (sp_turn y1) := (nI_eq (a := y2) (b := (sp_turn y1)) (by omega) (by omega)).mp c74
            have hm : sp_m2 v z i = false := by
              have hlt : i + 1 < z := by omega
              simp only [sp_m2, sp_pt, n1, n2, hy1, hy2]
              first | rw [if_pos c63] | rw [if_neg c63]
              simp [hlt, c74]
            refine r_push (v := nI 0) d_X0_isMisfitPair_81 ?_
            refine r_ireturn d_X0_isMisfitPair_82 ⟨_, rfl, rfl⟩ ?_
            rw [hm]
            exact ⟨rfl, rfl⟩
          · -- not taken at 74
            have c74 : ¬ y2 = (sp_turn y1) := fun zz9 => c74 ((nI_eq (a := y2) (b := (sp_turn y1)) (by omega) (by omega)).mpr zz9)
            have hm : sp_m2 v z i = true := by
              have hlt : i + 1 < z := by omega
              simp only [sp_m2, sp_pt, n1, n2, hy1, hy2]
              first | rw [if_pos c63] | rw [if_neg c63]
              simp [hlt, c74]
            refine r_push (v := nI 1) d_X0_isMisfitPair_77 ?_
            refine r_goto d_X0_isMisfitPair_78 ?_
            refine r_ireturn d_X0_isMisfitPair_82 ⟨_, rfl, rfl⟩ ?_
            rw [hm]
            exact ⟨rfl, rfl⟩
        · -- not taken at 63
          have c63 : (sp_turn y1) = y1 := (nI_eq (a := (sp_turn y1)) (b := y1) (by omega) (by omega)).mp c63
          refine r_iload_2 d_X0_isMisfitPair_66 ?_
          refine r_S1 d_X0_isMisfitPair_67 (c_X9_oppositeBits tl1) ⟨rfl, rfl⟩ (Nat.le_of_ble_eq_true rfl) ?_
          refine r_goto d_X0_isMisfitPair_70 ?_
          refine r_icmp_eq d_X0_isMisfitPair_74 (fun c74 => ?_) (fun c74 => ?_)
          · -- taken at 74
            have c74 : y2 = (63 - sp_turn y1) := (nI_eq (a := y2) (b := (63 - sp_turn y1)) (by omega) (by omega)).mp c74
            have hm : sp_m2 v z i = false := by
              have hlt : i + 1 < z := by omega
              simp only [sp_m2, sp_pt, n1, n2, hy1, hy2]
              first | rw [if_pos c63] | rw [if_neg c63]
              simp [hlt, c74]
            refine r_push (v := nI 0) d_X0_isMisfitPair_81 ?_
            refine r_ireturn d_X0_isMisfitPair_82 ⟨_, rfl, rfl⟩ ?_
            rw [hm]
            exact ⟨rfl, rfl⟩
          · -- not taken at 74
            have c74 : ¬ y2 = (63 - sp_turn y1) := fun zz9 => c74 ((nI_eq (a := y2) (b := (63 - sp_turn y1)) (by omega) (by omega)).mpr zz9)
            have hm : sp_m2 v z i = true := by
              have hlt : i + 1 < z := by omega
              simp only [sp_m2, sp_pt, n1, n2, hy1, hy2]
              first | rw [if_pos c63] | rw [if_neg c63]
              simp [hlt, c74]
            refine r_push (v := nI 1) d_X0_isMisfitPair_77 ?_
            refine r_goto d_X0_isMisfitPair_78 ?_
            refine r_ireturn d_X0_isMisfitPair_82 ⟨_, rfl, rfl⟩ ?_
            rw [hm]
            exact ⟨rfl, rfl⟩
      · -- not taken at 33
        have c33 : (pm_bl (sp_num (v (i + 1)))) = 0 := (nI_eq (a := (pm_bl (sp_num (v (i + 1))))) (b := 0) (by omega) (by omega)).mp c33
        have n2 := pm_bl0.mp c33
        have hm : sp_m2 v z i = false := by simp [sp_m2, n2]
        refine r_push (v := nI 0) d_X0_isMisfitPair_36 ?_
        refine r_ireturn d_X0_isMisfitPair_37 ⟨_, rfl, rfl⟩ ?_
        rw [hm]
        exact ⟨rfl, rfl⟩
set_option maxRecDepth 10000 in
set_option maxHeartbeats 4000000 in
theorem c_X0_isMisfit {h : pm_H} {a l z : Nat} {v : Nat → Int32} (ha : h.2 a = some (.inr (0, [.ref l, .int (nI z)]))) (hl : h.2 l = some (at_Y 64 v)) (hz : z ≤ 64) {i ord : Nat} (hi : i < 64) (ho : ord ≤ 2) : pm_Cv e_X0_isMisfit [.ref a, .int (nI i), .int (nI ord)] h (.int (nI (pm_bl (sp_isM ord v z i)))) h := by
  refine pm_enter rfl (Nat.le_of_ble_eq_true rfl) ?_
  show pm_V e_X0_isMisfit 0 [some (.ref a), some (.int (nI i)), some (.int (nI ord))] [] h (0, 0) _
  refine r_iload_2 d_X0_isMisfit_0 ?_
  refine r_push (v := nI 2) d_X0_isMisfit_1 ?_
  refine r_icmp_ne d_X0_isMisfit_2 (fun c2 => ?_) (fun c2 => ?_)
  · -- taken at 2
    have c2 : ¬ ord = 2 := fun zz9 => c2 ((nI_eq (a := ord) (b := 2) (by omega) (by omega)).mpr zz9)
    refine r_aload_0 d_X0_isMisfit_14 ?_
    refine r_get d_X0_isMisfit_15 s0_bytes ha rfl ?_
    refine r_iload_1 d_X0_isMisfit_18 ?_
    refine r_bald d_X0_isMisfit_19 hl (pm_ixN (by omega) (by decide)) ?_
    have hbl := pm_bl_le (sp_num (v i))
    refine r_S1 d_X0_isMisfit_20 c_X9_isNumberB ⟨rfl, rfl⟩ (Nat.le_of_ble_eq_true rfl) ?_
    refine r_if_eq d_X0_isMisfit_23 (fun c23 => ?_) (fun c23 => ?_)
    · -- taken at 23
      have c23 : (pm_bl (sp_num (v i))) = 0 := (nI_eq (a := (pm_bl (sp_num (v i)))) (b := 0) (by omega) (by omega)).mp c23
      have n1 := pm_bl0.mp c23
      have hm : sp_isM ord v z i = false := by unfold sp_isM sp_m1; rw [if_neg c2, n1]; rfl
      refine r_push (v := nI 0) d_X0_isMisfit_51 ?_
      refine r_ireturn d_X0_isMisfit_52 ⟨_, rfl, rfl⟩ ?_
      rw [hm]
      exact ⟨rfl, rfl⟩
    · -- not taken at 23
      have c23 : ¬ (pm_bl (sp_num (v i))) = 0 := fun zz9 => c23 ((nI_eq (a := (pm_bl (sp_num (v i)))) (b := 0) (by omega) (by omega)).mpr zz9)
      have n1 := pm_bl1 c23
      obtain ⟨y1, b1, e1, hy1⟩ := sp_num_ex n1
      refine r_aload_0 d_X0_isMisfit_26 ?_
      refine r_get d_X0_isMisfit_27 s0_bytes ha rfl ?_
      refine r_iload_1 d_X0_isMisfit_30 ?_
      refine r_bald d_X0_isMisfit_31 hl (pm_ixN (by omega) (by decide)) ?_
      rw [e1]
      refine r_iload_2 d_X0_isMisfit_32 ?_
      refine r_if_ne d_X0_isMisfit_33 (fun c33 => ?_) (fun c33 => ?_)
      · -- taken at 33
        have c33 : ¬ ord = 0 := fun zz9 => c33 ((nI_eq (a := ord) (b := 0) (by omega) (by omega)).mpr zz9)
        refine r_iload_1 d_X0_isMisfit_40 ?_
        have tl := sp_turn_lt i hi
        refine r_S1 d_X0_isMisfit_41 (c_X9_turnedBits hi) ⟨rfl, rfl⟩ (Nat.le_of_ble_eq_true rfl) ?_
        refine r_icmp_eq d_X0_isMisfit_44 (fun c44 => ?_) (fun c44 => ?_)
        · -- taken at 44
          have c44 : y1 = (sp_turn i) := (nI_eq (a := y1) (b := (sp_turn i)) (by omega) (by omega)).mp c44
          have hm : sp_isM ord v z i = false := by
            unfold sp_isM sp_m1
            rw [if_neg c2, n1, hy1]
            first | rw [if_pos c33] | rw [if_neg c33]
            simp [c44]
          refine r_push (v := nI 0) d_X0_isMisfit_51 ?_
          refine r_ireturn d_X0_isMisfit_52 ⟨_, rfl, rfl⟩ ?_
          rw [hm]
          exact ⟨rfl, rfl⟩
        · -- not taken at 44
          have c44 : ¬ y1 = (sp_turn i) := fun zz9 => c44 ((nI_eq (a := y1) (b := (sp_turn i)) (by omega) (by omega)).mpr zz9)
          have hm : sp_isM ord v z i = true := by
            unfold sp_isM sp_m1
            rw [if_neg c2, n1, hy1]
            first | rw [if_pos c33] | rw [if_neg c33]
            simp [c44]
          refine r_push (v := nI 1) d_X0_isMisfit_47 ?_
          refine r_goto d_X0_isMisfit_48 ?_
          refine r_ireturn d_X0_isMisfit_52 ⟨_, rfl, rfl⟩ ?_
          rw [hm]
          exact ⟨rfl, rfl⟩
      · -- not taken at 33
        have c33 : ord = 0 := (nI_eq (a := ord) (b := 0) (by omega) (by omega)).mp c33
        refine r_iload_1 d_X0_isMisfit_36 ?_
        refine r_goto d_X0_isMisfit_37 ?_
        refine r_icmp_eq d_X0_isMisfit_44 (fun c44 => ?_) (fun c44 => ?_)
        · -- taken at 44
          have c44 : y1 = i := (nI_eq (a := y1) (b := i) (by omega) (by omega)).mp c44
          have hm : sp_isM ord v z i = false := by
            unfold sp_isM sp_m1
            rw [if_neg c2, n1, hy1]
            first | rw [if_pos c33] | rw [if_neg c33]
            simp [c44]
          refine r_push (v := nI 0) d_X0_isMisfit_51 ?_
          refine r_ireturn d_X0_isMisfit_52 ⟨_, rfl, rfl⟩ ?_
          rw [hm]
          exact ⟨rfl, rfl⟩
        · -- not taken at 44
          have c44 : ¬ y1 = i := fun zz9 => c44 ((nI_eq (a := y1) (b := i) (by omega) (by omega)).mpr zz9)
          have hm : sp_isM ord v z i = true := by
            unfold sp_isM sp_m1
            rw [if_neg c2, n1, hy1]
            first | rw [if_pos c33] | rw [if_neg c33]
            simp [c44]
          refine r_push (v := nI 1) d_X0_isMisfit_47 ?_
          refine r_goto d_X0_isMisfit_48 ?_
          refine r_ireturn d_X0_isMisfit_52 ⟨_, rfl, rfl⟩ ?_
          rw [hm]
          exact ⟨rfl, rfl⟩
  · -- not taken at 2
    have c2 : ord = 2 := (nI_eq (a := ord) (b := 2) (by omega) (by omega)).mp c2
    refine r_aload_0 d_X0_isMisfit_5 ?_
    refine r_iload_1 d_X0_isMisfit_6 ?_
    refine r_push d_X0_isMisfit_7 ?_
    refine r_iand d_X0_isMisfit_9 ?_
    rw [show nI i &&& (-2) = nI (i - i % 2) from pm_even i (by omega)]
    refine r_V1 d_X0_isMisfit_10 (c_X0_isMisfitPair ha hl hz (by omega)) ha rfl rfl ⟨rfl, rfl⟩ (Nat.le_of_ble_eq_true rfl) ?_
    refine r_ireturn d_X0_isMisfit_13 ⟨_, rfl, pm_blz _⟩ ?_
    rw [show sp_isM ord v z i = sp_m2 v z (i - i % 2) by unfold sp_isM; rw [if_pos c2]]
    exact ⟨rfl, rfl⟩
