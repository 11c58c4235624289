/-! odds as whole weights -/
def pmO (h : pm_H) (W Hp Nx : Nat → Nat) (al : Nat) : pm_H := (h.1, fun q => if q = 13 then some (.inr (4, [.ref 14, .ref 15, .ref 16, .long (lN al)])) else if q = 14 then some (at_J 31 (fun j => lN (W j))) else if q = 15 then some (at_J 61 (fun j => lN (Hp j))) else if q = 16 then some (at_J 61 (fun j => lN (Nx j))) else h.2 q)
section PO
variable {h : pm_H} {W Hp Nx W' Hp' Nx' : Nat → Nat} {al al' : Nat}
theorem pmO_13 : pm_up (pmO h W Hp Nx al) 13 (.inr (4, [.ref 14, .ref 15, .ref 16, .long (lN al')])) = pmO h W Hp Nx al' := by
  refine Prod.ext rfl (funext fun q => ?_)
  show (if q = 13 then _ else if q = 13 then _ else _) = if q = 13 then _ else _
  by_cases e : q = 13 <;> simp [e]
theorem pmO_14 : pm_up (pmO h W Hp Nx al) 14 (at_J 31 (fun j => lN (W' j))) = pmO h W' Hp Nx al := by
  refine Prod.ext rfl (funext fun q => ?_)
  show (if q = 14 then _ else if q = 13 then _ else if q = 14 then _ else _) = if q = 13 then _ else if q = 14 then _ else _
  by_cases e : q = 14 <;> simp [e]
theorem pmO_15 : pm_up (pmO h W Hp Nx al) 15 (at_J 61 (fun j => lN (Hp' j))) = pmO h W Hp' Nx al := by
  refine Prod.ext rfl (funext fun q => ?_)
  show (if q = 15 then _ else if q = 13 then _ else if q = 14 then _ else if q = 15 then _ else _) = if q = 13 then _ else if q = 14 then _ else if q = 15 then _ else _
  by_cases e : q = 15 <;> simp [e]
theorem pmO_16 : pm_up (pmO h W Hp Nx al) 16 (at_J 61 (fun j => lN (Nx' j))) = pmO h W Hp Nx' al := by
  refine Prod.ext rfl (funext fun q => ?_)
  show (if q = 16 then _ else if q = 13 then _ else if q = 14 then _ else if q = 15 then _ else if q = 16 then _ else _) = if q = 13 then _ else if q = 14 then _ else if q = 15 then _ else if q = 16 then _ else _
  by_cases e : q = 16 <;> simp [e]
theorem pmO_ne {a : Nat} {x : Option pm_C} (ha : 68 ≤ a) (e : h.2 a = x) : (pmO h W Hp Nx al).2 a = x := by
  show (if a = 13 then _ else if a = 14 then _ else if a = 15 then _ else if a = 16 then _ else h.2 a) = x
  rw [if_neg (by omega), if_neg (by omega), if_neg (by omega), if_neg (by omega), e]
theorem pm_sk_O {a n k f lo hi : Nat} (hs : pm_sk h a n k f lo hi) (ha : 68 ≤ a) : pm_sk (pmO h W Hp Nx al) a n k f lo hi := by
  rcases hs with ⟨z, e⟩ | z
  · exact Or.inl ⟨pmO_ne ha z, e⟩
  · exact Or.inr (pmO_ne ha z)
end PO
theorem pm_lu {g : Nat → Nat} {t x : Nat} : vp_updL (fun j => lN (g j)) t (lN x) = fun j => lN (va_up g t x j) := by
  funext j
  simp only [vp_updL, va_up]
  split <;> rfl
theorem pm_lfl {g : Nat → Nat} {n : Nat} : pm_fl (lN 0) (fun j => lN (g j)) n = fun j => lN (pm_fl 0 g n j) := by
  funext j
  simp only [pm_fl]
  split <;> rfl
theorem pm_lcp {f g : Nat → Nat} {a b n : Nat} : va_cpy (fun j => lN (f j)) (fun j => lN (g j)) a b n = fun j => lN (va_cpy f g a b n j) := by
  funext j
  simp only [va_cpy]
  split <;> rfl
theorem pm_lNs (f : Nat → Int64) : ∃ g : Nat → Nat, f = fun j => lN (g j) := ⟨fun j => (f j).toUInt64.toNat, funext fun j => by
  show f j = Int64.ofNat (f j).toUInt64.toNat
  apply Int64.toBitVec_inj.mp
  simp⟩
set_option maxRecDepth 10000 in
set_option maxHeartbeats 4000000 in
theorem c_X4_begin {h : pm_H} {W Hp Nx : Nat → Nat} {al : Nat} {s : Nat} : pm_C0 e_X4_begin [.ref 13, .long (lN s)] (pmO h W Hp Nx al) (pmO h (pm_fl 0 W 31) Hp Nx s) := by
  refine pm_enter rfl (Nat.le_of_ble_eq_true rfl) ?_
  show pm_V e_X4_begin 0 [some (.ref 13), some (.long (lN s)), none] [] (pmO h W Hp Nx al) (0, 0) _
  refine r_aload_0 d_X4_begin_0 ?_
  refine r_get d_X4_begin_1 s4_weights rfl rfl ?_
  refine r_pushl (v := lN 0) d_X4_begin_4 ?_
  refine r_S2v d_X4_begin_5 (c_J7_fill_d0a16 (n := 31) (by decide) rfl) ⟨rfl, rfl⟩ (Nat.le_of_ble_eq_true rfl) ?_
  rw [pm_lfl, pmO_14]
  refine r_aload_0 d_X4_begin_8 ?_
  refine r_lload_1 d_X4_begin_9 ?_
  refine r_put d_X4_begin_10 s4_all rfl (Nat.le_of_ble_eq_true rfl) ⟨rfl, rfl⟩ ?_
  rw [show [Value.ref 14, .ref 15, .ref 16, .long (lN al)].set 3 (.long (lN s)) = [.ref 14, .ref 15, .ref 16, .long (lN s)] from rfl, pmO_13]
  refine r_return d_X4_begin_13 rfl ?_
  exact ⟨rfl, rfl⟩
set_option maxRecDepth 10000 in
set_option maxHeartbeats 4000000 in
theorem c_X4_beginBundle {h : pm_H} {W Hp Nx : Nat → Nat} {al : Nat} {n : Nat} (hn : n ≤ 60) : pm_C0 e_X4_beginBundle [.ref 13, .int (nI n)] (pmO h W Hp Nx al) (pmO h (pm_fl 0 W 31) (va_up (pm_fl 0 Hp 61) n 1) Nx 1) := by
  refine pm_enter rfl (Nat.le_of_ble_eq_true rfl) ?_
  show pm_V e_X4_beginBundle 0 [some (.ref 13), some (.int (nI n))] [] (pmO h W Hp Nx al) (0, 0) _
  refine r_aload_0 d_X4_beginBundle_0 ?_
  refine r_pushl (v := lN 1) d_X4_beginBundle_1 ?_
  refine r_V1v d_X4_beginBundle_2 c_X4_begin rfl rfl rfl ⟨rfl, rfl⟩ (Nat.le_of_ble_eq_true rfl) ?_
  refine r_aload_0 d_X4_beginBundle_5 ?_
  refine r_get d_X4_beginBundle_6 s4_heaps rfl rfl ?_
  refine r_pushl (v := lN 0) d_X4_beginBundle_9 ?_
  refine r_S2v d_X4_beginBundle_10 (c_J7_fill_d0a16 (n := 61) (by decide) rfl) ⟨rfl, rfl⟩ (Nat.le_of_ble_eq_true rfl) ?_
  rw [pm_lfl, pmO_15]
  refine r_iload_1 d_X4_beginBundle_13 ?_
  refine r_if_lt d_X4_beginBundle_14 (fun c14 => ?_) (fun c14 => ?_)
  · -- taken at 14
    have c14 : n < 0 := (nI_ltI (a := n) (b := 0) (by omega) (by omega)).mp c14
    refine r_return d_X4_beginBundle_30 rfl ?_
    first | (exfalso; omega; done) | exact ⟨rfl, rfl⟩
  · -- not taken at 14
    have c14 : ¬ n < 0 := fun zz9 => c14 ((nI_ltI (a := n) (b := 0) (by omega) (by omega)).mpr zz9)
    refine r_iload_1 d_X4_beginBundle_17 ?_
    refine r_push (v := nI 60) d_X4_beginBundle_18 ?_
    refine r_icmp_gt d_X4_beginBundle_20 (fun c20 => ?_) (fun c20 => ?_)
    · -- taken at 20
      have c20 : 60 < n := (nI_ltI (a := 60) (b := n) (by omega) (by omega)).mp c20
      refine r_return d_X4_beginBundle_30 rfl ?_
      first | (exfalso; omega; done) | exact ⟨rfl, rfl⟩
    · -- not taken at 20
      have c20 : ¬ 60 < n := fun zz9 => c20 ((nI_ltI (a := 60) (b := n) (by omega) (by omega)).mpr zz9)
      refine r_aload_0 d_X4_beginBundle_23 ?_
      refine r_get d_X4_beginBundle_24 s4_heaps rfl rfl ?_
      refine r_iload_1 d_X4_beginBundle_27 ?_
      refine r_pushl (v := lN 1) d_X4_beginBundle_28 ?_
      refine r_last d_X4_beginBundle_29 rfl (pm_ixN (by omega) (by omega)) ?_
      rw [pm_lu, pmO_15]
      refine r_return d_X4_beginBundle_30 rfl ?_
      first | (exfalso; omega; done) | exact ⟨rfl, rfl⟩
set_option maxRecDepth 10000 in
set_option maxHeartbeats 4000000 in
theorem c_X1_weigh {h : pm_H} {W Hp Nx : Nat → Nat} {al : Nat} {a : Nat} : pm_C0 e_X1_weigh [.ref a, .ref 13] (pmO h W Hp Nx al) (pmO h (va_up (pm_fl 0 W 31) 7 1) Hp Nx 1) := by
  refine pm_enter rfl (Nat.le_of_ble_eq_true rfl) ?_
  show pm_V e_X1_weigh 0 [some (.ref a), some (.ref 13)] [] (pmO h W Hp Nx al) (0, 0) _
  refine r_aload_1 d_X1_weigh_0 ?_
  refine r_pushl (v := lN 1) d_X1_weigh_1 ?_
  refine r_V1v d_X1_weigh_2 c_X4_begin rfl rfl rfl ⟨rfl, rfl⟩ (Nat.le_of_ble_eq_true rfl) ?_
  refine r_aload_1 d_X1_weigh_5 ?_
  refine r_get d_X1_weigh_6 s4_weights rfl rfl ?_
  refine r_push (v := nI 7) d_X1_weigh_9 ?_
  refine r_pushl (v := lN 1) d_X1_weigh_11 ?_
  refine r_last d_X1_weigh_12 rfl (pm_ixN (by omega) (by omega)) ?_
  rw [pm_lu, pmO_14]
  refine r_return d_X1_weigh_13 rfl ?_
  exact ⟨rfl, rfl⟩
set_option maxRecDepth 10000 in
set_option maxHeartbeats 4000000 in
theorem c_X2_weigh {h : pm_H} {W Hp Nx : Nat → Nat} {al : Nat} {a : Nat} : pm_C0 e_X2_weigh [.ref a, .ref 13] (pmO h W Hp Nx al) (pmO h (va_up (va_up (va_up (va_up (pm_fl 0 W 31) 6 1) 7 3) 8 3) 9 1) Hp Nx 8) := by
  refine pm_enter rfl (Nat.le_of_ble_eq_true rfl) ?_
  show pm_V e_X2_weigh 0 [some (.ref a), some (.ref 13)] [] (pmO h W Hp Nx al) (0, 0) _
  refine r_aload_1 d_X2_weigh_0 ?_
  refine r_pushl (v := lN 8) d_X2_weigh_1 ?_
  refine r_V1v d_X2_weigh_4 c_X4_begin rfl rfl rfl ⟨rfl, rfl⟩ (Nat.le_of_ble_eq_true rfl) ?_
  refine r_aload_1 d_X2_weigh_7 ?_
  refine r_get d_X2_weigh_8 s4_weights rfl rfl ?_
  refine r_push (v := nI 6) d_X2_weigh_11 ?_
  refine r_pushl (v := lN 1) d_X2_weigh_13 ?_
  refine r_last d_X2_weigh_14 rfl (pm_ixN (by omega) (by omega)) ?_
  rw [pm_lu, pmO_14]
  refine r_aload_1 d_X2_weigh_15 ?_
  refine r_get d_X2_weigh_16 s4_weights rfl rfl ?_
  refine r_push (v := nI 7) d_X2_weigh_19 ?_
  refine r_pushl (v := lN 3) d_X2_weigh_21 ?_
  refine r_last d_X2_weigh_24 rfl (pm_ixN (by omega) (by omega)) ?_
  rw [pm_lu, pmO_14]
  refine r_aload_1 d_X2_weigh_25 ?_
  refine r_get d_X2_weigh_26 s4_weights rfl rfl ?_
  refine r_push (v := nI 8) d_X2_weigh_29 ?_
  refine r_pushl (v := lN 3) d_X2_weigh_31 ?_
  refine r_last d_X2_weigh_34 rfl (pm_ixN (by omega) (by omega)) ?_
  rw [pm_lu, pmO_14]
  refine r_aload_1 d_X2_weigh_35 ?_
  refine r_get d_X2_weigh_36 s4_weights rfl rfl ?_
  refine r_push (v := nI 9) d_X2_weigh_39 ?_
  refine r_pushl (v := lN 1) d_X2_weigh_41 ?_
  refine r_last d_X2_weigh_42 rfl (pm_ixN (by omega) (by omega)) ?_
  rw [pm_lu, pmO_14]
  refine r_return d_X2_weigh_43 rfl ?_
  exact ⟨rfl, rfl⟩
set_option maxRecDepth 10000 in
set_option maxHeartbeats 4000000 in
theorem lp_X4_partsInto17 {h : pm_H} {W Hp Nx : Nat → Nat} {al : Nat} {f : Nat → Int32} (hal : 1 ≤ al ∧ al < 2 ^ 40) (hw : ∀ j, j < 31 → W j ≤ al) {F : Option Value → pm_H → Prop} {b : Nat × Nat}  (K : pm_V e_X4_partsInto 52 [some (.ref 13), some (.ref 17), some (.int (nI 31))] [] (pm_up (pmO h W Hp Nx al) 17 (at_I 31 (pm_fc (fun j => nI (1000000 * W j / al)) f 31))) b F) : ∀ (d i : Nat), i + d = 31 → pm_V e_X4_partsInto 2 [some (.ref 13), some (.ref 17), some (.int (nI i))] [] (pm_up (pmO h W Hp Nx al) 17 (at_I 31 (pm_fc (fun j => nI (1000000 * W j / al)) f i))) b F := by
  intro d
  induction d with
  | zero =>
    intro i hi
    obtain rfl : i = 31 := by omega
    refine r_iload_2 d_X4_partsInto_2 ?_
    refine r_aload_1 d_X4_partsInto_3 ?_
    refine r_alen d_X4_partsInto_4 rfl (t0 := 0) (n := 31) rfl (fun z => by cases z) rfl ?_
    refine r_icmp_ge d_X4_partsInto_5 (fun c5 => ?_) (fun c5 => absurd (by decide) c5)
    clear c5
    exact K
  | succ d ih =>
    intro i hi
    refine r_iload_2 d_X4_partsInto_2 ?_
    refine r_aload_1 d_X4_partsInto_3 ?_
    refine r_alen d_X4_partsInto_4 rfl (t0 := 0) (n := 31) rfl (fun z => by cases z) rfl ?_
    refine r_icmp_ge d_X4_partsInto_5 (fun c5 => ?_) (fun c5 => ?_)
    · -- taken at 5
      have c5 : 31 ≤ i := (nI_leI (a := 31) (b := i) (by omega) (by omega)).mp c5
      exfalso; omega
    · -- not taken at 5
      have c5 : ¬ 31 ≤ i := fun zz9 => c5 ((nI_leI (a := 31) (b := i) (by omega) (by omega)).mpr zz9)
      refine r_iload_2 d_X4_partsInto_8 ?_
      refine r_push (v := nI 30) d_X4_partsInto_9 ?_
      refine r_icmp_gt d_X4_partsInto_11 (fun c11 => ?_) (fun c11 => ?_)
      · -- taken at 11
        have c11 : 30 < i := (nI_ltI (a := 30) (b := i) (by omega) (by omega)).mp c11
        exfalso; omega
      · -- not taken at 11
        have c11 : ¬ 30 < i := fun zz9 => c11 ((nI_ltI (a := 30) (b := i) (by omega) (by omega)).mpr zz9)
        refine r_aload_1 d_X4_partsInto_14 ?_
        refine r_iload_2 d_X4_partsInto_15 ?_
        refine r_aload_0 d_X4_partsInto_16 ?_
        refine r_get d_X4_partsInto_17 s4_all rfl rfl ?_
        refine r_pushl (v := lN 1) d_X4_partsInto_20 ?_
        refine r_lcmp d_X4_partsInto_21 ?_
        refine r_if_ge d_X4_partsInto_22 (fun c22 => ?_) (fun c22 => ?_)
        · -- taken at 22
          have c22 : 1 ≤ al := ((lg_cmp_ge (lN (al)) (lN (1))).trans (pk_lLE (a := 1) (b := al) (by omega) (by omega))).mp c22
          have hwi := hw i (by omega)
          have hmi : 1000000 * W i / al ≤ 1000000 := Nat.div_le_of_le_mul (by rw [Nat.mul_comm]; exact Nat.mul_le_mul_right _ hwi)
          refine r_pushl (v := lN 1000000) d_X4_partsInto_29 ?_
          refine r_aload_0 d_X4_partsInto_32 ?_
          refine r_get d_X4_partsInto_33 s4_weights rfl rfl ?_
          refine r_iload_2 d_X4_partsInto_36 ?_
          refine r_lald d_X4_partsInto_37 rfl (pm_ixN (by omega) (by omega)) ?_
          refine r_lmul d_X4_partsInto_38 ?_
          rw [lN_mul]
          refine r_aload_0 d_X4_partsInto_39 ?_
          refine r_get d_X4_partsInto_40 s4_all rfl rfl ?_
          refine r_ldiv d_X4_partsInto_43 (pm_lne0 (n := al) (by omega) (by omega)) ?_
          rw [pk_lDiv (a := (1000000 * (W i))) (b := al) (by omega) (by omega) (by omega)]
          refine r_l2i d_X4_partsInto_44 ?_
          rw [lN_i]
          refine r_iast d_X4_partsInto_45 rfl (pm_ixN (by omega) (by omega)) ?_
          rw [show nI (1000000 * W i / al) = (fun j => nI (1000000 * W j / al)) i from rfl, pm_up_up, pm_fc_s]
          refine r_iinc_2 d_X4_partsInto_46 (Nat.le_of_ble_eq_true rfl) (fun w hw => by cases hw <;> rfl) ?_
          rw [nI_1]
          refine r_goto d_X4_partsInto_49 ?_
          exact ih (i + 1) (by omega)
        · -- not taken at 22
          have c22 : ¬ 1 ≤ al := fun zz9 => c22 (((lg_cmp_ge (lN (al)) (lN (1))).trans (pk_lLE (a := 1) (b := al) (by omega) (by omega))).mpr zz9)
          exfalso; omega
set_option maxRecDepth 10000 in
set_option maxHeartbeats 4000000 in
theorem c_X4_partsInto17 {h : pm_H} {W Hp Nx : Nat → Nat} {al : Nat} {f : Nat → Int32} (hal : 1 ≤ al ∧ al < 2 ^ 40) (hw : ∀ j, j < 31 → W j ≤ al) (hp : h.2 17 = some (at_I 31 f)) : pm_C0 e_X4_partsInto [.ref 13, .ref 17] (pmO h W Hp Nx al) (pm_up (pmO h W Hp Nx al) 17 (at_I 31 (pm_fc (fun j => nI (1000000 * W j / al)) f 31))) := by
  have eh : (pm_up (pmO h W Hp Nx al) 17 (at_I 31 (pm_fc (fun j => nI (1000000 * W j / al)) f 0))) = (pmO h W Hp Nx al) := by rw [pm_fc_0]; exact pm_up_self hp
  refine pm_enter rfl (Nat.le_of_ble_eq_true rfl) ?_
  show pm_V e_X4_partsInto 0 [some (.ref 13), some (.ref 17), none] [] (pmO h W Hp Nx al) (0, 0) _
  refine r_push (v := nI 0) d_X4_partsInto_0 ?_
  refine r_istore_2 d_X4_partsInto_1 (Nat.le_of_ble_eq_true rfl) (fun w hw => by cases hw <;> rfl) ?_
  have K := lp_X4_partsInto17 (h := h) (Hp := Hp) (Nx := Nx) (f := f) (b := (0, 0)) (F := fun v9 h1 => v9 = none ∧ h1 = (pm_up (pmO h W Hp Nx al) 17 (at_I 31 (pm_fc (fun j => nI (1000000 * W j / al)) f 31)))) hal hw (r_return d_X4_partsInto_52 rfl ⟨rfl, rfl⟩) 31 0 (by omega)
  rw [eh] at K
  exact K
set_option maxRecDepth 10000 in
set_option maxHeartbeats 4000000 in
theorem lp_X4_partsInto18 {h : pm_H} {W Hp Nx : Nat → Nat} {al : Nat} {f : Nat → Int32} (hal : 1 ≤ al ∧ al < 2 ^ 40) (hw : ∀ j, j < 31 → W j ≤ al) {F : Option Value → pm_H → Prop} {b : Nat × Nat}  (K : pm_V e_X4_partsInto 52 [some (.ref 13), some (.ref 18), some (.int (nI 31))] [] (pm_up (pmO h W Hp Nx al) 18 (at_I 31 (pm_fc (fun j => nI (1000000 * W j / al)) f 31))) b F) : ∀ (d i : Nat), i + d = 31 → pm_V e_X4_partsInto 2 [some (.ref 13), some (.ref 18), some (.int (nI i))] [] (pm_up (pmO h W Hp Nx al) 18 (at_I 31 (pm_fc (fun j => nI (1000000 * W j / al)) f i))) b F := by
  intro d
  induction d with
  | zero =>
    intro i hi
    obtain rfl : i = 31 := by omega
    refine r_iload_2 d_X4_partsInto_2 ?_
    refine r_aload_1 d_X4_partsInto_3 ?_
    refine r_alen d_X4_partsInto_4 rfl (t0 := 0) (n := 31) rfl (fun z => by cases z) rfl ?_
    refine r_icmp_ge d_X4_partsInto_5 (fun c5 => ?_) (fun c5 => absurd (by decide) c5)
    clear c5
    exact K
  | succ d ih =>
    intro i hi
    refine r_iload_2 d_X4_partsInto_2 ?_
    refine r_aload_1 d_X4_partsInto_3 ?_
    refine r_alen d_X4_partsInto_4 rfl (t0 := 0) (n := 31) rfl (fun z => by cases z) rfl ?_
    refine r_icmp_ge d_X4_partsInto_5 (fun c5 => ?_) (fun c5 => ?_)
    · -- taken at 5
      have c5 : 31 ≤ i := (nI_leI (a := 31) (b := i) (by omega) (by omega)).mp c5
      exfalso; omega
    · -- not taken at 5
      have c5 : ¬ 31 ≤ i := fun zz9 => c5 ((nI_leI (a := 31) (b := i) (by omega) (by omega)).mpr zz9)
      refine r_iload_2 d_X4_partsInto_8 ?_
      refine r_push (v := nI 30) d_X4_partsInto_9 ?_
      refine r_icmp_gt d_X4_partsInto_11 (fun c11 => ?_) (fun c11 => ?_)
      · -- taken at 11
        have c11 : 30 < i := (nI_ltI (a := 30) (b := i) (by omega) (by omega)).mp c11
        exfalso; omega
      · -- not taken at 11
        have c11 : ¬ 30 < i := fun zz9 => c11 ((nI_ltI (a := 30) (b := i) (by omega) (by omega)).mpr zz9)
        refine r_aload_1 d_X4_partsInto_14 ?_
        refine r_iload_2 d_X4_partsInto_15 ?_
        refine r_aload_0 d_X4_partsInto_16 ?_
        refine r_get d_X4_partsInto_17 s4_all rfl rfl ?_
        refine r_pushl (v := lN 1) d_X4_partsInto_20 ?_
        refine r_lcmp d_X4_partsInto_21 ?_
        refine r_if_ge d_X4_partsInto_22 (fun c22 => ?_) (fun c22 => ?_)
        · -- taken at 22
          have c22 : 1 ≤ al := ((lg_cmp_ge (lN (al)) (lN (1))).trans (pk_lLE (a := 1) (b := al) (by omega) (by omega))).mp c22
          have hwi := hw i (by omega)
          have hmi : 1000000 * W i / al ≤ 1000000 := Nat.div_le_of_le_mul (by rw [Nat.mul_comm]; exact Nat.mul_le_mul_right _ hwi)
          refine r_pushl (v := lN 1000000) d_X4_partsInto_29 ?_
          refine r_aload_0 d_X4_partsInto_32 ?_
          refine r_get d_X4_partsInto_33 s4_weights rfl rfl ?_
          refine r_iload_2 d_X4_partsInto_36 ?_
          refine r_lald d_X4_partsInto_37 rfl (pm_ixN (by omega) (by omega)) ?_
          refine r_lmul d_X4_partsInto_38 ?_
          rw [lN_mul]
          refine r_aload_0 d_X4_partsInto_39 ?_
          refine r_get d_X4_partsInto_40 s4_all rfl rfl ?_
          refine r_ldiv d_X4_partsInto_43 (pm_lne0 (n := al) (by omega) (by omega)) ?_
          rw [pk_lDiv (a := (1000000 * (W i))) (b := al) (by omega) (by omega) (by omega)]
          refine r_l2i d_X4_partsInto_44 ?_
          rw [lN_i]
          refine r_iast d_X4_partsInto_45 rfl (pm_ixN (by omega) (by omega)) ?_
          rw [show nI (1000000 * W i / al) = (fun j => nI (1000000 * W j / al)) i from rfl, pm_up_up, pm_fc_s]
          refine r_iinc_2 d_X4_partsInto_46 (Nat.le_of_ble_eq_true rfl) (fun w hw => by cases hw <;> rfl) ?_
          rw [nI_1]
          refine r_goto d_X4_partsInto_49 ?_
          exact ih (i + 1) (by omega)
        · -- not taken at 22
          have c22 : ¬ 1 ≤ al := fun zz9 => c22 (((lg_cmp_ge (lN (al)) (lN (1))).trans (pk_lLE (a := 1) (b := al) (by omega) (by omega))).mpr zz9)
          exfalso; omega
set_option maxRecDepth 10000 in
set_option maxHeartbeats 4000000 in
theorem c_X4_partsInto18 {h : pm_H} {W Hp Nx : Nat → Nat} {al : Nat} {f : Nat → Int32} (hal : 1 ≤ al ∧ al < 2 ^ 40) (hw : ∀ j, j < 31 → W j ≤ al) (hp : h.2 18 = some (at_I 31 f)) : pm_C0 e_X4_partsInto [.ref 13, .ref 18] (pmO h W Hp Nx al) (pm_up (pmO h W Hp Nx al) 18 (at_I 31 (pm_fc (fun j => nI (1000000 * W j / al)) f 31))) := by
  have eh : (pm_up (pmO h W Hp Nx al) 18 (at_I 31 (pm_fc (fun j => nI (1000000 * W j / al)) f 0))) = (pmO h W Hp Nx al) := by rw [pm_fc_0]; exact pm_up_self hp
  refine pm_enter rfl (Nat.le_of_ble_eq_true rfl) ?_
  show pm_V e_X4_partsInto 0 [some (.ref 13), some (.ref 18), none] [] (pmO h W Hp Nx al) (0, 0) _
  refine r_push (v := nI 0) d_X4_partsInto_0 ?_
  refine r_istore_2 d_X4_partsInto_1 (Nat.le_of_ble_eq_true rfl) (fun w hw => by cases hw <;> rfl) ?_
  have K := lp_X4_partsInto18 (h := h) (Hp := Hp) (Nx := Nx) (f := f) (b := (0, 0)) (F := fun v9 h1 => v9 = none ∧ h1 = (pm_up (pmO h W Hp Nx al) 18 (at_I 31 (pm_fc (fun j => nI (1000000 * W j / al)) f 31)))) hal hw (r_return d_X4_partsInto_52 rfl ⟨rfl, rfl⟩) 31 0 (by omega)
  rw [eh] at K
  exact K
