theorem pmX_Fs {h : pm_H} {xi : Nat → Int32} {xl : Nat → Int64} {xc : Nat → Option Nat} {XA : Nat → Nat → Int32} {XB : Nat → Nat → Int64} {st : Nat} (e : xi 2 = nI st) : ∃ wt mb ac bf, pmX h xi xl xc XA XB = pmF (pmX h xi xl xc XA XB) wt bf mb ac st ∧ XA 11 = (fun j => nI (ac j)) := by
  obtain ⟨wt, h8⟩ := pm_nIs (XA 8)
  obtain ⟨mb, h10⟩ := pm_nIs (XA 10)
  obtain ⟨ac, h11⟩ := pm_nIs (XA 11)
  have h9 : ∃ bf : Nat → Option Nat, XA 9 = fun j => bI (bf j) := by
    obtain ⟨g9, hg9⟩ := pm_nIs (XA 9)
    exact ⟨fun j => some (g9 j), hg9⟩
  obtain ⟨bf, h9⟩ := h9
  refine ⟨wt, mb, ac, bf, ?_, h11⟩
  rw [pmX_F, ← e, ← h8, ← h9, ← h10, ← h11]
  rw [m_uu0 rfl, m_aus XA 8, m_aus XA 9, m_aus XA 10, m_aus XA 11]
def x_c4 (XA X1 : Nat → Nat → Int32) : Prop := ∀ q, q < 8 ∨ 11 < q → X1 q = XA q
theorem x_c4_F {XA : Nat → Nat → Int32} {a b c d : Nat → Int32} : x_c4 XA (va_up (va_up (va_up (va_up XA 8 a) 9 b) 10 c) 11 d) := fun q hq => by
  simp only [va_up]
  rw [if_neg (by omega), if_neg (by omega), if_neg (by omega), if_neg (by omega)]
theorem x_st {xi : Nat → Int32} {cn : Nat} (x : Int32) (h : xi 2 = nI cn) : upd (upd xi 2 (nI cn)) 2 x = upd xi 2 x := m_uu xi 2 _ _
set_option maxRecDepth 10000 in
set_option maxHeartbeats 4000000 in
theorem c_X9_step {h : pm_H} {xi : Nat → Int32} {xl : Nat → Int64} {xc : Nat → Option Nat} {XA : Nat → Nat → Int32} {XB : Nat → Nat → Int64} {st : Nat} {i : Int32} (hst : xi 2 = nI st) (h64 : st ≤ 64) : pm_Cv e_X9_step [.ref 1, .int i] (pmX h xi xl xc XA XB) (.int (if 0 ≤ i ∧ i < nI st then XA 11 (st - 1 - i.toNatClampNeg) else -9)) (pmX h xi xl xc XA XB) := by
  obtain ⟨wt, mb, ac, bf, eF, h11⟩ := pmX_Fs (h := h) (xl := xl) (xc := xc) (XA := XA) (XB := XB) hst
  have hc := c_X8_actAt (h := pmX h xi xl xc XA XB) (wt := wt) (mb := mb) (ac := ac) (bf := bf) (cn := st) (i := i) h64
  rw [← eF] at hc
  rw [show XA 11 (st - 1 - i.toNatClampNeg) = nI (ac (st - 1 - i.toNatClampNeg)) from congrFun h11 _]
  refine pm_enter rfl (Nat.le_of_ble_eq_true rfl) ?_
  show pm_V e_X9_step 0 [some (.ref 1), some (.int i)] [] (pmX h xi xl xc XA XB) (0, 0) _
  refine r_aload_0 d_X9_step_0 ?_
  refine r_get d_X9_step_1 s9_finder rfl rfl ?_
  refine r_iload_1 d_X9_step_4 ?_
  refine r_V1 d_X9_step_5 hc rfl rfl rfl ⟨rfl, rfl⟩ (Nat.le_of_ble_eq_true rfl) ?_
  refine r_ireturn d_X9_step_8 ⟨_, rfl, rfl⟩ ?_
  exact ⟨rfl, rfl⟩
set_option maxRecDepth 10000 in
set_option maxHeartbeats 4000000 in
theorem c_X9_way {h : pm_H} {xi : Nat → Int32} {xl : Nat → Int64} {xc : Nat → Option Nat} {XA : Nat → Nat → Int32} {XB : Nat → Nat → Int64} {x y lt st : Nat} (hst : xi 2 = nI st) (hx : x < 64) (hy : y < 64) (hlt : lt < 512) : pm_Cl e_X9_way [.ref 1, .int (nI x), .int (nI y), .int (nI lt)] (pmX h xi xl xc XA XB) (fun v9 h1 => ((∀ fr, m_inv lt y fr → fr x = 1000) ∧ v9 = some (.int (-9)) ∧ ∃ X1, h1 = pmX h (upd xi 2 (nI 0)) xl xc X1 XB ∧ x_c4 XA X1) ∨ (∃ n X1, (∀ fr, m_inv lt y fr → m_fix lt fr → fr x < 64 ∧ n = fr x ∧ ∀ i, i < n → X1 11 (n - 1 - i) = nI ((sp_gp lt fr (fr x) x).getD i 0)) ∧ v9 = some (.int (nI n)) ∧ h1 = pmX h (upd xi 2 (nI n)) xl xc X1 XB ∧ x_c4 XA X1)) := by
  obtain ⟨wt, mb, ac, bf, eF, h11⟩ := pmX_Fs (h := h) (xl := xl) (xc := xc) (XA := XA) (XB := XB) hst
  obtain ⟨b1, b2, b3, b4⟩ := sp_bfs (lt := lt) (wt := wt) (bf := bf) (mb := mb) (ac := ac) hx hy
  have hc := c_X8_find (h := pmX h xi xl xc XA XB) (wt := wt) (mb := mb) (ac := ac) (bf := bf) (cn := st) hx hy hlt b1
  rw [← eF] at hc
  have hnx : sp_num (nI x) = true := sp_num_of hx
  have hny : sp_num (nI y) = true := sp_num_of hy
  refine pm_enter rfl (Nat.le_of_ble_eq_true rfl) ?_
  show pm_V e_X9_way 0 [some (.ref 1), some (.int (nI x)), some (.int (nI y)), some (.int (nI lt))] [] (pmX h xi xl xc XA XB) (0, 0) _
  refine r_iload_1 d_X9_way_0 ?_
  refine r_S1 d_X9_way_1 c_X9_isNumberB ⟨rfl, rfl⟩ (Nat.le_of_ble_eq_true rfl) ?_
  rw [hnx]
  change pm_V _ _ _ (.int (nI 1) :: _) _ _ _
  refine r_if_eq d_X9_way_4 (fun c4 => absurd c4 (by decide)) (fun c4 => ?_)
  clear c4
  refine r_iload_2 d_X9_way_7 ?_
  refine r_S1 d_X9_way_8 c_X9_isNumberB ⟨rfl, rfl⟩ (Nat.le_of_ble_eq_true rfl) ?_
  rw [hny]
  change pm_V _ _ _ (.int (nI 1) :: _) _ _ _
  refine r_if_eq d_X9_way_11 (fun c11 => absurd c11 (by decide)) (fun c11 => ?_)
  clear c11
  refine r_iload_3 d_X9_way_14 ?_
  refine r_if_lt d_X9_way_15 (fun c15 => ?_) (fun c15 => ?_)
  · -- taken at 15
    have c15 : lt < 0 := (nI_ltI (a := lt) (b := 0) (by omega) (by omega)).mp c15
    exfalso; omega
  · -- not taken at 15
    have c15 : ¬ lt < 0 := fun zz9 => c15 ((nI_ltI (a := lt) (b := 0) (by omega) (by omega)).mpr zz9)
    refine r_iload_3 d_X9_way_18 ?_
    refine r_push (v := nI 512) d_X9_way_19 ?_
    refine r_icmp_lt d_X9_way_22 (fun c22 => ?_) (fun c22 => ?_)
    · -- taken at 22
      have c22 : lt < 512 := (nI_ltI (a := lt) (b := 512) (by omega) (by omega)).mp c22
      refine r_aload_0 d_X9_way_27 ?_
      refine r_get d_X9_way_28 s9_finder rfl rfl ?_
      refine r_iload_1 d_X9_way_31 ?_
      refine r_iload_2 d_X9_way_32 ?_
      refine r_iload_3 d_X9_way_33 ?_
      refine r_V3p d_X9_way_34 hc rfl rfl rfl ⟨rfl, rfl⟩ (Nat.le_of_ble_eq_true rfl) ?_
      intro v9 h9 hP
      rcases hP with ⟨p1, rfl, rfl⟩ | ⟨q, p1, rfl, rfl⟩
      · change pm_V _ _ _ [.int (-9)] _ _ _
        refine r_ireturn d_X9_way_37 ⟨_, rfl, rfl⟩ ?_
        exact Or.inl ⟨b3 p1, rfl, _, pmX_F, x_c4_F⟩
      · obtain b4 := b4 q p1
        change pm_V _ _ _ [.int (nI (sp_fc (sp_wo lt 64 0 (sp_w0 x wt bf mb)).2.2.1 (sp_wo lt 64 0 (sp_w0 x wt bf mb)).2.2.2 x 64 y 0 ac).1)] _ _ _
        generalize sp_fc (sp_wo lt 64 0 (sp_w0 x wt bf mb)).2.2.1 (sp_wo lt 64 0 (sp_w0 x wt bf mb)).2.2.2 x 64 y 0 ac = S at b4 ⊢
        refine r_ireturn d_X9_way_37 ⟨_, rfl, rfl⟩ ?_
        refine Or.inr ⟨S.1, _, fun fr i1 i2 => ?_, rfl, pmX_F, x_c4_F⟩
        obtain ⟨e1, e2, e3⟩ := b4 fr i1 i2
        refine ⟨e1, e2, fun i hid => ?_⟩
        rw [e2] at hid ⊢
        exact congrArg nI (e3 i hid)
    · -- not taken at 22
      have c22 : ¬ lt < 512 := fun zz9 => c22 ((nI_ltI (a := lt) (b := 512) (by omega) (by omega)).mpr zz9)
      exfalso; omega
