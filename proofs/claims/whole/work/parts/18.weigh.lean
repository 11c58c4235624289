def sp_sh (lo hi : Nat) (Hp : Nat → Nat) : Nat → Nat
  | 0 => 1
  | n + 1 => if 2 ≤ n ∧ 0 < Hp n then sp_sh lo hi Hp n * sp_places lo hi n else sp_sh lo hi Hp n
def sp_pl (k f lo n e : Nat) (g : Nat → Nat) : Nat → (Nat → Nat)
  | 0 => g
  | c + 1 => va_up (sp_pl k f lo n e g c) (sp_left k f n (sp_first lo n + c)) (sp_pl k f lo n e g c (sp_left k f n (sp_first lo n + c)) + e)
/-- what parting the heap n of weight w adds to g -/
def sp_ph (k f lo hi n w : Nat) (g : Nat → Nat) : Nat → Nat := if n < 2 then va_up g n (g n + w) else sp_pl k f lo n (w / sp_places lo hi n) g (sp_places lo hi n)
def sp_pp (k f lo hi sh : Nat) (Hp g : Nat → Nat) : Nat → (Nat → Nat)
  | 0 => g
  | n + 1 => if 0 < Hp n then sp_ph k f lo hi n (Hp n * sh) (sp_pp k f lo hi sh Hp g n) else sp_pp k f lo hi sh Hp g n
set_option maxRecDepth 10000 in
set_option maxHeartbeats 4000000 in
theorem lp_X6_sharesOf {h : pm_H} {W Hp Nx : Nat → Nat} {al a n k f lo hi : Nat} (hs0 : pm_sk h a n k f lo hi) (ok : pm_ok n k f lo hi) (h68 : 68 ≤ a) (hH : ∀ j, j < 61 → Hp j < 2 ^ 62) {F : Option Value → pm_H → Prop} {b : Nat × Nat} (K : pm_V e_X6_sharesOf 37 [some (.ref a), some (.ref 15), some (.long (lN (sp_sh lo hi Hp 61))), none, some (.int (nI 61))] [] (pmO h W Hp Nx al) b F) : ∀ (d i : Nat), i + d = 61 → 2 ≤ i → pm_V e_X6_sharesOf 5 [some (.ref a), some (.ref 15), some (.long (lN (sp_sh lo hi Hp i))), none, some (.int (nI i))] [] (pmO h W Hp Nx al) b F := by
  have g := ok
  obtain ⟨g1, g2, g3, g4, g5, g6, g7, g8⟩ := ok
  intro d
  induction d with
  | zero =>
    intro i hi9 hi2
    obtain rfl : i = 61 := by omega
    refine r_iload_4 d_X6_sharesOf_5 ?_
    refine r_aload_1 d_X6_sharesOf_7 ?_
    refine r_alen d_X6_sharesOf_8 rfl (t0 := 1) (n := 61) rfl (fun z => by cases z) rfl ?_
    refine r_icmp_ge d_X6_sharesOf_9 (fun c9 => ?_) (fun c9 => absurd (by decide) c9)
    clear c9
    exact K
  | succ d ih =>
    intro i hi9 hi2
    have hHi := hH i (by omega)
    have hp := sp_places_in (n := i) hi2 g6 g7 g8
    have hq := hs0
    rcases hq with ⟨hr, e1, e2⟩ | hr
    ·
      refine r_iload_4 d_X6_sharesOf_5 ?_
      refine r_aload_1 d_X6_sharesOf_7 ?_
      refine r_alen d_X6_sharesOf_8 rfl (t0 := 1) (n := 61) rfl (fun z => by cases z) rfl ?_
      refine r_icmp_ge d_X6_sharesOf_9 (fun c9 => ?_) (fun c9 => ?_)
      · -- taken at 9
        have c9 : 61 ≤ i := (nI_leI (a := 61) (b := i) (by omega) (by omega)).mp c9
        exfalso; omega
      · -- not taken at 9
        have c9 : ¬ 61 ≤ i := fun zz9 => c9 ((nI_leI (a := 61) (b := i) (by omega) (by omega)).mpr zz9)
        refine r_aload_1 d_X6_sharesOf_12 ?_
        refine r_iload_4 d_X6_sharesOf_13 ?_
        refine r_lald d_X6_sharesOf_15 rfl (pm_ixN (by omega) (by omega)) ?_
        refine r_pushl (v := lN 0) d_X6_sharesOf_16 ?_
        refine r_lcmp d_X6_sharesOf_17 ?_
        refine r_if_le d_X6_sharesOf_18 (fun c18 => ?_) (fun c18 => ?_)
        · -- taken at 18
          have c18 : (Hp i) ≤ 0 := ((lg_cmp_le (lN ((Hp i))) (lN (0))).trans (pk_lLE (a := (Hp i)) (b := 0) (by omega) (by omega))).mp c18
          refine r_iinc_4 d_X6_sharesOf_31 (Nat.le_of_ble_eq_true rfl) (fun w hw => by cases hw <;> rfl) ?_
          rw [nI_1]
          refine r_goto d_X6_sharesOf_34 ?_
          first
          | (rw [show sp_sh lo hi Hp i * sp_places lo hi i = sp_sh lo hi Hp (i + 1) from (by simp only [sp_sh]; rw [if_pos ⟨hi2, by omega⟩])]; exact ih (i + 1) (by omega) (by omega))
          | (rw [show sp_sh lo hi Hp i = sp_sh lo hi Hp (i + 1) from (by simp only [sp_sh]; rw [if_neg (by omega)])]; exact ih (i + 1) (by omega) (by omega))
        · -- not taken at 18
          have c18 : ¬ (Hp i) ≤ 0 := fun zz9 => c18 (((lg_cmp_le (lN ((Hp i))) (lN (0))).trans (pk_lLE (a := (Hp i)) (b := 0) (by omega) (by omega))).mpr zz9)
          refine r_lload_2 d_X6_sharesOf_21 ?_
          refine r_aload_0 d_X6_sharesOf_22 ?_
          refine r_iload_4 d_X6_sharesOf_23 ?_
          refine r_V1 d_X6_sharesOf_25_6 (c_X6_placesOf (pm_sk_O hs0 h68) g ⟨hi2, by omega⟩) (pmO_ne h68 hr) rfl rfl ⟨rfl, rfl⟩ (Nat.le_of_ble_eq_true rfl) ?_
          refine r_i2l d_X6_sharesOf_28 ?_
          rw [nI_l (n := (sp_places lo hi i)) (by omega)]
          refine r_lmul d_X6_sharesOf_29 ?_
          rw [lN_mul]
          refine r_lstore_2 d_X6_sharesOf_30 (Nat.le_of_ble_eq_true rfl) (fun w hw => by cases hw <;> rfl) ?_
          refine r_iinc_4 d_X6_sharesOf_31 (Nat.le_of_ble_eq_true rfl) (fun w hw => by cases hw <;> rfl) ?_
          rw [nI_1]
          refine r_goto d_X6_sharesOf_34 ?_
          first
          | (rw [show sp_sh lo hi Hp i * sp_places lo hi i = sp_sh lo hi Hp (i + 1) from (by simp only [sp_sh]; rw [if_pos ⟨hi2, by omega⟩])]; exact ih (i + 1) (by omega) (by omega))
          | (rw [show sp_sh lo hi Hp i = sp_sh lo hi Hp (i + 1) from (by simp only [sp_sh]; rw [if_neg (by omega)])]; exact ih (i + 1) (by omega) (by omega))
    ·
      refine r_iload_4 d_X6_sharesOf_5 ?_
      refine r_aload_1 d_X6_sharesOf_7 ?_
      refine r_alen d_X6_sharesOf_8 rfl (t0 := 1) (n := 61) rfl (fun z => by cases z) rfl ?_
      refine r_icmp_ge d_X6_sharesOf_9 (fun c9 => ?_) (fun c9 => ?_)
      · -- taken at 9
        have c9 : 61 ≤ i := (nI_leI (a := 61) (b := i) (by omega) (by omega)).mp c9
        exfalso; omega
      · -- not taken at 9
        have c9 : ¬ 61 ≤ i := fun zz9 => c9 ((nI_leI (a := 61) (b := i) (by omega) (by omega)).mpr zz9)
        refine r_aload_1 d_X6_sharesOf_12 ?_
        refine r_iload_4 d_X6_sharesOf_13 ?_
        refine r_lald d_X6_sharesOf_15 rfl (pm_ixN (by omega) (by omega)) ?_
        refine r_pushl (v := lN 0) d_X6_sharesOf_16 ?_
        refine r_lcmp d_X6_sharesOf_17 ?_
        refine r_if_le d_X6_sharesOf_18 (fun c18 => ?_) (fun c18 => ?_)
        · -- taken at 18
          have c18 : (Hp i) ≤ 0 := ((lg_cmp_le (lN ((Hp i))) (lN (0))).trans (pk_lLE (a := (Hp i)) (b := 0) (by omega) (by omega))).mp c18
          refine r_iinc_4 d_X6_sharesOf_31 (Nat.le_of_ble_eq_true rfl) (fun w hw => by cases hw <;> rfl) ?_
          rw [nI_1]
          refine r_goto d_X6_sharesOf_34 ?_
          first
          | (rw [show sp_sh lo hi Hp i * sp_places lo hi i = sp_sh lo hi Hp (i + 1) from (by simp only [sp_sh]; rw [if_pos ⟨hi2, by omega⟩])]; exact ih (i + 1) (by omega) (by omega))
          | (rw [show sp_sh lo hi Hp i = sp_sh lo hi Hp (i + 1) from (by simp only [sp_sh]; rw [if_neg (by omega)])]; exact ih (i + 1) (by omega) (by omega))
        · -- not taken at 18
          have c18 : ¬ (Hp i) ≤ 0 := fun zz9 => c18 (((lg_cmp_le (lN ((Hp i))) (lN (0))).trans (pk_lLE (a := (Hp i)) (b := 0) (by omega) (by omega))).mpr zz9)
          refine r_lload_2 d_X6_sharesOf_21 ?_
          refine r_aload_0 d_X6_sharesOf_22 ?_
          refine r_iload_4 d_X6_sharesOf_23 ?_
          refine r_V1 d_X6_sharesOf_25_7 (c_X6_placesOf (pm_sk_O hs0 h68) g ⟨hi2, by omega⟩) (pmO_ne h68 hr) rfl rfl ⟨rfl, rfl⟩ (Nat.le_of_ble_eq_true rfl) ?_
          refine r_i2l d_X6_sharesOf_28 ?_
          rw [nI_l (n := (sp_places lo hi i)) (by omega)]
          refine r_lmul d_X6_sharesOf_29 ?_
          rw [lN_mul]
          refine r_lstore_2 d_X6_sharesOf_30 (Nat.le_of_ble_eq_true rfl) (fun w hw => by cases hw <;> rfl) ?_
          refine r_iinc_4 d_X6_sharesOf_31 (Nat.le_of_ble_eq_true rfl) (fun w hw => by cases hw <;> rfl) ?_
          rw [nI_1]
          refine r_goto d_X6_sharesOf_34 ?_
          first
          | (rw [show sp_sh lo hi Hp i * sp_places lo hi i = sp_sh lo hi Hp (i + 1) from (by simp only [sp_sh]; rw [if_pos ⟨hi2, by omega⟩])]; exact ih (i + 1) (by omega) (by omega))
          | (rw [show sp_sh lo hi Hp i = sp_sh lo hi Hp (i + 1) from (by simp only [sp_sh]; rw [if_neg (by omega)])]; exact ih (i + 1) (by omega) (by omega))
set_option maxRecDepth 10000 in
set_option maxHeartbeats 4000000 in
theorem c_X6_sharesOf {h : pm_H} {W Hp Nx : Nat → Nat} {al a n k f lo hi : Nat} (hs0 : pm_sk h a n k f lo hi) (ok : pm_ok n k f lo hi) (h68 : 68 ≤ a) (hH : ∀ j, j < 61 → Hp j < 2 ^ 62) : pm_Cv e_X6_sharesOf [.ref a, .ref 15] (pmO h W Hp Nx al) (.long (lN (sp_sh lo hi Hp 61))) (pmO h W Hp Nx al) := by
  refine pm_enter rfl (Nat.le_of_ble_eq_true rfl) ?_
  show pm_V e_X6_sharesOf 0 [some (.ref a), some (.ref 15), none, none, none] [] (pmO h W Hp Nx al) (0, 0) _
  refine r_pushl (v := lN 1) d_X6_sharesOf_0 ?_
  refine r_lstore_2 d_X6_sharesOf_1 (Nat.le_of_ble_eq_true rfl) (fun w hw => by cases hw <;> rfl) ?_
  refine r_push (v := nI 2) d_X6_sharesOf_2 ?_
  refine r_istore_4 d_X6_sharesOf_3 (Nat.le_of_ble_eq_true rfl) (fun w hw => by cases hw <;> rfl) ?_
  have e : (1 : Nat) = sp_sh lo hi Hp 2 := by simp [sp_sh]
  have K := lp_X6_sharesOf (W := W) (Nx := Nx) (al := al) (b := (0, 0)) (F := fun v9 h1 => v9 = some (.long (lN (sp_sh lo hi Hp 61))) ∧ h1 = (pmO h W Hp Nx al)) hs0 ok h68 hH (r_lload_2 d_X6_sharesOf_37 (r_lreturn d_X6_sharesOf_38 rfl ⟨rfl, rfl⟩)) 59 2 (by omega) (by omega)
  rw [← e] at K
  exact K
set_option maxRecDepth 10000 in
set_option maxHeartbeats 4000000 in
theorem lp_X6_partHeap {h : pm_H} {W Hp Nx : Nat → Nat} {al a n k f lo hi : Nat} (hs0 : pm_sk h a n k f lo hi) (ok : pm_ok n k f lo hi) (h68 : 68 ≤ a) {m w : Nat} (hm : 2 ≤ m ∧ m ≤ 60) {F : Option Value → pm_H → Prop} {b : Nat × Nat} (K : ∀ o, pm_V e_X6_partHeap 97 [some (.ref a), some (.int (nI m)), some (.long (lN w)), none, some (.ref 16), some (.int (nI (sp_places lo hi m))), some (.long (lN (w / sp_places lo hi m))), none, some (.int (nI (sp_first lo m))), some (.int (nI (sp_first lo m + sp_places lo hi m))), o] [] (pmO h W Hp (sp_pl k f lo m (w / sp_places lo hi m) Nx (sp_places lo hi m)) al) b F) : ∀ (d c : Nat) (o : Option Value), c + d = sp_places lo hi m → pm_V e_X6_partHeap 49 [some (.ref a), some (.int (nI m)), some (.long (lN w)), none, some (.ref 16), some (.int (nI (sp_places lo hi m))), some (.long (lN (w / sp_places lo hi m))), none, some (.int (nI (sp_first lo m))), some (.int (nI (sp_first lo m + c))), o] [] (pmO h W Hp (sp_pl k f lo m (w / sp_places lo hi m) Nx c) al) b F := by
  have g := ok
  obtain ⟨g1, g2, g3, g4, g5, g6, g7, g8⟩ := ok
  have hp := sp_places_in (n := m) hm.1 g6 g7 g8
  have hf := sp_first_in (lo := lo) hm.1 g6
  intro d
  induction d with
  | zero =>
    intro c o hc
    rw [show c = sp_places lo hi m by omega]
    refine r_iload_9 d_X6_partHeap_49 ?_
    refine r_iload_8 d_X6_partHeap_51 ?_
    refine r_iload_5 d_X6_partHeap_53 ?_
    refine r_iadd d_X6_partHeap_55 ?_
    rw [nI_add]
    refine r_icmp_ge d_X6_partHeap_56 (fun c56 => ?_) (fun c56 => ?_)
    · -- taken at 56
      have c56 : ((sp_first lo m) + (sp_places lo hi m)) ≤ (sp_first lo m + sp_places lo hi m) := (nI_leI (a := ((sp_first lo m) + (sp_places lo hi m))) (b := (sp_first lo m + sp_places lo hi m)) (by omega) (by omega)).mp c56
      exact K _
    · -- not taken at 56
      have c56 : ¬ ((sp_first lo m) + (sp_places lo hi m)) ≤ (sp_first lo m + sp_places lo hi m) := fun zz9 => c56 ((nI_leI (a := ((sp_first lo m) + (sp_places lo hi m))) (b := (sp_first lo m + sp_places lo hi m)) (by omega) (by omega)).mpr zz9)
      exfalso; omega
  | succ d ih =>
    intro c o hc
    have hlt := sp_left_lt (k := k) (f := f) (n := m) (a := sp_first lo m + c) (by omega) (by omega) (by omega)
    have hq := hs0
    rcases hq with ⟨hr, e1, e2⟩ | hr
    ·
      refine r_iload_9 d_X6_partHeap_49 ?_
      refine r_iload_8 d_X6_partHeap_51 ?_
      refine r_iload_5 d_X6_partHeap_53 ?_
      refine r_iadd d_X6_partHeap_55 ?_
      rw [nI_add]
      refine r_icmp_ge d_X6_partHeap_56 (fun c56 => ?_) (fun c56 => ?_)
      · -- taken at 56
        have c56 : ((sp_first lo m) + (sp_places lo hi m)) ≤ (sp_first lo m + c) := (nI_leI (a := ((sp_first lo m) + (sp_places lo hi m))) (b := (sp_first lo m + c)) (by omega) (by omega)).mp c56
        exfalso; omega
      · -- not taken at 56
        have c56 : ¬ ((sp_first lo m) + (sp_places lo hi m)) ≤ (sp_first lo m + c) := fun zz9 => c56 ((nI_leI (a := ((sp_first lo m) + (sp_places lo hi m))) (b := (sp_first lo m + c)) (by omega) (by omega)).mpr zz9)
        refine r_aload_0 d_X6_partHeap_59 ?_
        refine r_iload_1 d_X6_partHeap_60 ?_
        refine r_iload_9 d_X6_partHeap_61 ?_
        refine r_V2 d_X6_partHeap_63_6 (c_X6_leftOf (pm_sk_O hs0 h68) g hm.2 ⟨by omega, by omega⟩) (pmO_ne h68 hr) rfl rfl ⟨rfl, rfl⟩ (Nat.le_of_ble_eq_true rfl) ?_
        refine r_istore_10 d_X6_partHeap_66 (Nat.le_of_ble_eq_true rfl) (fun w hw => by cases hw <;> rfl) ?_
        refine r_iload_10 d_X6_partHeap_68 ?_
        refine r_if_lt d_X6_partHeap_70 (fun c70 => ?_) (fun c70 => ?_)
        · -- taken at 70
          have c70 : (sp_left k f m (sp_first lo m + c)) < 0 := (nI_ltI (a := (sp_left k f m (sp_first lo m + c))) (b := 0) (by omega) (by omega)).mp c70
          exfalso; omega
        · -- not taken at 70
          have c70 : ¬ (sp_left k f m (sp_first lo m + c)) < 0 := fun zz9 => c70 ((nI_ltI (a := (sp_left k f m (sp_first lo m + c))) (b := 0) (by omega) (by omega)).mpr zz9)
          refine r_iload_10 d_X6_partHeap_73 ?_
          refine r_aload_4 d_X6_partHeap_75 ?_
          refine r_alen d_X6_partHeap_77 rfl (t0 := 1) (n := 61) rfl (fun z => by cases z) rfl ?_
          refine r_icmp_ge d_X6_partHeap_78 (fun c78 => ?_) (fun c78 => ?_)
          · -- taken at 78
            have c78 : 61 ≤ (sp_left k f m (sp_first lo m + c)) := (nI_leI (a := 61) (b := (sp_left k f m (sp_first lo m + c))) (by omega) (by omega)).mp c78
            exfalso; omega
          · -- not taken at 78
            have c78 : ¬ 61 ≤ (sp_left k f m (sp_first lo m + c)) := fun zz9 => c78 ((nI_leI (a := 61) (b := (sp_left k f m (sp_first lo m + c))) (by omega) (by omega)).mpr zz9)
            refine r_aload_4 d_X6_partHeap_81 ?_
            refine r_iload_10 d_X6_partHeap_83 ?_
            refine r_dup2 d_X6_partHeap_85 rfl rfl ?_
            refine r_lald d_X6_partHeap_86 rfl (pm_ixN (by omega) (by omega)) ?_
            refine r_lload_6 d_X6_partHeap_87 ?_
            refine r_ladd d_X6_partHeap_89 ?_
            rw [lN_add]
            refine r_last d_X6_partHeap_90 rfl (pm_ixN (by omega) (by omega)) ?_
            rw [pm_lu, pmO_16]
            refine r_iinc_9 d_X6_partHeap_91 (Nat.le_of_ble_eq_true rfl) (fun w hw => by cases hw <;> rfl) ?_
            rw [nI_1]
            refine r_goto d_X6_partHeap_94 ?_
            rw [show sp_first lo m + c + 1 = sp_first lo m + (c + 1) by omega]
            exact ih (c + 1) _ (by omega)
    ·
      refine r_iload_9 d_X6_partHeap_49 ?_
      refine r_iload_8 d_X6_partHeap_51 ?_
      refine r_iload_5 d_X6_partHeap_53 ?_
      refine r_iadd d_X6_partHeap_55 ?_
      rw [nI_add]
      refine r_icmp_ge d_X6_partHeap_56 (fun c56 => ?_) (fun c56 => ?_)
      · -- taken at 56
        have c56 : ((sp_first lo m) + (sp_places lo hi m)) ≤ (sp_first lo m + c) := (nI_leI (a := ((sp_first lo m) + (sp_places lo hi m))) (b := (sp_first lo m + c)) (by omega) (by omega)).mp c56
        exfalso; omega
      · -- not taken at 56
        have c56 : ¬ ((sp_first lo m) + (sp_places lo hi m)) ≤ (sp_first lo m + c) := fun zz9 => c56 ((nI_leI (a := ((sp_first lo m) + (sp_places lo hi m))) (b := (sp_first lo m + c)) (by omega) (by omega)).mpr zz9)
        refine r_aload_0 d_X6_partHeap_59 ?_
        refine r_iload_1 d_X6_partHeap_60 ?_
        refine r_iload_9 d_X6_partHeap_61 ?_
        refine r_V2 d_X6_partHeap_63_7 (c_X6_leftOf (pm_sk_O hs0 h68) g hm.2 ⟨by omega, by omega⟩) (pmO_ne h68 hr) rfl rfl ⟨rfl, rfl⟩ (Nat.le_of_ble_eq_true rfl) ?_
        refine r_istore_10 d_X6_partHeap_66 (Nat.le_of_ble_eq_true rfl) (fun w hw => by cases hw <;> rfl) ?_
        refine r_iload_10 d_X6_partHeap_68 ?_
        refine r_if_lt d_X6_partHeap_70 (fun c70 => ?_) (fun c70 => ?_)
        · -- taken at 70
          have c70 : (sp_left k f m (sp_first lo m + c)) < 0 := (nI_ltI (a := (sp_left k f m (sp_first lo m + c))) (b := 0) (by omega) (by omega)).mp c70
          exfalso; omega
        · -- not taken at 70
          have c70 : ¬ (sp_left k f m (sp_first lo m + c)) < 0 := fun zz9 => c70 ((nI_ltI (a := (sp_left k f m (sp_first lo m + c))) (b := 0) (by omega) (by omega)).mpr zz9)
          refine r_iload_10 d_X6_partHeap_73 ?_
          refine r_aload_4 d_X6_partHeap_75 ?_
          refine r_alen d_X6_partHeap_77 rfl (t0 := 1) (n := 61) rfl (fun z => by cases z) rfl ?_
          refine r_icmp_ge d_X6_partHeap_78 (fun c78 => ?_) (fun c78 => ?_)
          · -- taken at 78
            have c78 : 61 ≤ (sp_left k f m (sp_first lo m + c)) := (nI_leI (a := 61) (b := (sp_left k f m (sp_first lo m + c))) (by omega) (by omega)).mp c78
            exfalso; omega
          · -- not taken at 78
            have c78 : ¬ 61 ≤ (sp_left k f m (sp_first lo m + c)) := fun zz9 => c78 ((nI_leI (a := 61) (b := (sp_left k f m (sp_first lo m + c))) (by omega) (by omega)).mpr zz9)
            refine r_aload_4 d_X6_partHeap_81 ?_
            refine r_iload_10 d_X6_partHeap_83 ?_
            refine r_dup2 d_X6_partHeap_85 rfl rfl ?_
            refine r_lald d_X6_partHeap_86 rfl (pm_ixN (by omega) (by omega)) ?_
            refine r_lload_6 d_X6_partHeap_87 ?_
            refine r_ladd d_X6_partHeap_89 ?_
            rw [lN_add]
            refine r_last d_X6_partHeap_90 rfl (pm_ixN (by omega) (by omega)) ?_
            rw [pm_lu, pmO_16]
            refine r_iinc_9 d_X6_partHeap_91 (Nat.le_of_ble_eq_true rfl) (fun w hw => by cases hw <;> rfl) ?_
            rw [nI_1]
            refine r_goto d_X6_partHeap_94 ?_
            rw [show sp_first lo m + c + 1 = sp_first lo m + (c + 1) by omega]
            exact ih (c + 1) _ (by omega)
set_option maxRecDepth 10000 in
set_option maxHeartbeats 4000000 in
theorem c_X6_partHeap {h : pm_H} {W Hp Nx : Nat → Nat} {al a n k f lo hi : Nat} (hs0 : pm_sk h a n k f lo hi) (ok : pm_ok n k f lo hi) (h68 : 68 ≤ a) {m w : Nat} (hm : m ≤ 60) (hw : w < 2 ^ 62) : pm_C0 e_X6_partHeap [.ref a, .int (nI m), .long (lN w), .ref 16] (pmO h W Hp Nx al) (pmO h W Hp (sp_ph k f lo hi m w Nx) al) := by
  have g := ok
  obtain ⟨g1, g2, g3, g4, g5, g6, g7, g8⟩ := ok
  have hq := hs0
  rcases hq with ⟨hr, e1, e2⟩ | hr
  ·
    refine pm_enter rfl (Nat.le_of_ble_eq_true rfl) ?_
    show pm_V e_X6_partHeap 0 [some (.ref a), some (.int (nI m)), some (.long (lN w)), none, some (.ref 16), none, none, none, none, none, none] [] (pmO h W Hp Nx al) (0, 0) _
    refine r_iload_1 d_X6_partHeap_0 ?_
    refine r_push (v := nI 2) d_X6_partHeap_1 ?_
    refine r_icmp_ge d_X6_partHeap_2 (fun c2 => ?_) (fun c2 => ?_)
    · -- taken at 2
      have c2 : 2 ≤ m := (nI_leI (a := 2) (b := m) (by omega) (by omega)).mp c2
      refine r_aload_0 d_X6_partHeap_14 ?_
      refine r_iload_1 d_X6_partHeap_15 ?_
      refine r_V1 d_X6_partHeap_16_6 (c_X6_placesOf (pm_sk_O hs0 h68) g ⟨by omega, hm⟩) (pmO_ne h68 hr) rfl rfl ⟨rfl, rfl⟩ (Nat.le_of_ble_eq_true rfl) ?_
      have hp := sp_places_in (n := m) (by omega) g6 g7 g8
      refine r_istore_5 d_X6_partHeap_19 (Nat.le_of_ble_eq_true rfl) (fun w hw => by cases hw <;> rfl) ?_
      refine r_iload_5 d_X6_partHeap_21 ?_
      refine r_push (v := nI 1) d_X6_partHeap_23 ?_
      refine r_icmp_ge d_X6_partHeap_24 (fun c24 => ?_) (fun c24 => ?_)
      · -- taken at 24
        have c24 : 1 ≤ (sp_places lo hi m) := (nI_leI (a := 1) (b := (sp_places lo hi m)) (by omega) (by omega)).mp c24
        refine r_lload_2 d_X6_partHeap_31 ?_
        refine r_iload_5 d_X6_partHeap_32 ?_
        refine r_i2l d_X6_partHeap_34 ?_
        rw [nI_l (n := (sp_places lo hi m)) (by omega)]
        refine r_ldiv d_X6_partHeap_35 (pm_lne0 (n := (sp_places lo hi m)) (by omega) (by omega)) ?_
        rw [pk_lDiv (a := w) (b := (sp_places lo hi m)) (by omega) (by omega) (by omega)]
        refine r_lstore_6 d_X6_partHeap_36 (Nat.le_of_ble_eq_true rfl) (fun w hw => by cases hw <;> rfl) ?_
        refine r_aload_0 d_X6_partHeap_38 ?_
        refine r_iload_1 d_X6_partHeap_39 ?_
        refine r_V1 d_X6_partHeap_40_6 (c_X6_firstPlace ⟨by omega, hm⟩) (pmO_ne h68 hr) rfl rfl ⟨rfl, rfl⟩ (Nat.le_of_ble_eq_true rfl) ?_
        refine r_istore_8 d_X6_partHeap_43 (Nat.le_of_ble_eq_true rfl) (fun w hw => by cases hw <;> rfl) ?_
        refine r_iload_8 d_X6_partHeap_45 ?_
        refine r_istore_9 d_X6_partHeap_47 (Nat.le_of_ble_eq_true rfl) (fun w hw => by cases hw <;> rfl) ?_
        have K := lp_X6_partHeap (W := W) (Hp := Hp) (Nx := Nx) (al := al) (w := w) (b := (0, 0)) (F := fun v9 h1 => v9 = none ∧ h1 = pmO h W Hp (sp_ph k f lo hi m w Nx) al) hs0 g h68 ⟨by omega, hm⟩ (fun o => r_return d_X6_partHeap_97 rfl ⟨rfl, by rw [show sp_ph k f lo hi m w Nx = sp_pl k f lo m (w / sp_places lo hi m) Nx (sp_places lo hi m) by unfold sp_ph; rw [if_neg (by omega)]]⟩) (sp_places lo hi m) 0 none (by omega)
        subst e1
        rw [show sp_first 1 m = 1 by unfold sp_first; split <;> omega] at K
        exact K
      · -- not taken at 24
        have c24 : ¬ 1 ≤ (sp_places lo hi m) := fun zz9 => c24 ((nI_leI (a := 1) (b := (sp_places lo hi m)) (by omega) (by omega)).mpr zz9)
        exfalso; omega
    · -- not taken at 2
      have c2 : ¬ 2 ≤ m := fun zz9 => c2 ((nI_leI (a := 2) (b := m) (by omega) (by omega)).mpr zz9)
      refine r_aload_4 d_X6_partHeap_5 ?_
      refine r_iload_1 d_X6_partHeap_7 ?_
      refine r_dup2 d_X6_partHeap_8 rfl rfl ?_
      refine r_lald d_X6_partHeap_9 rfl (pm_ixN (by omega) (by omega)) ?_
      refine r_lload_2 d_X6_partHeap_10 ?_
      refine r_ladd d_X6_partHeap_11 ?_
      rw [lN_add]
      refine r_last d_X6_partHeap_12 rfl (pm_ixN (by omega) (by omega)) ?_
      rw [pm_lu, pmO_16]
      refine r_return d_X6_partHeap_13 rfl ?_
      exact ⟨rfl, by rw [show sp_ph k f lo hi m w Nx = va_up Nx m (Nx m + w) by unfold sp_ph; rw [if_pos (by omega)]]⟩
  ·
    refine pm_enter rfl (Nat.le_of_ble_eq_true rfl) ?_
    show pm_V e_X6_partHeap 0 [some (.ref a), some (.int (nI m)), some (.long (lN w)), none, some (.ref 16), none, none, none, none, none, none] [] (pmO h W Hp Nx al) (0, 0) _
    refine r_iload_1 d_X6_partHeap_0 ?_
    refine r_push (v := nI 2) d_X6_partHeap_1 ?_
    refine r_icmp_ge d_X6_partHeap_2 (fun c2 => ?_) (fun c2 => ?_)
    · -- taken at 2
      have c2 : 2 ≤ m := (nI_leI (a := 2) (b := m) (by omega) (by omega)).mp c2
      refine r_aload_0 d_X6_partHeap_14 ?_
      refine r_iload_1 d_X6_partHeap_15 ?_
      refine r_V1 d_X6_partHeap_16_7 (c_X6_placesOf (pm_sk_O hs0 h68) g ⟨by omega, hm⟩) (pmO_ne h68 hr) rfl rfl ⟨rfl, rfl⟩ (Nat.le_of_ble_eq_true rfl) ?_
      have hp := sp_places_in (n := m) (by omega) g6 g7 g8
      refine r_istore_5 d_X6_partHeap_19 (Nat.le_of_ble_eq_true rfl) (fun w hw => by cases hw <;> rfl) ?_
      refine r_iload_5 d_X6_partHeap_21 ?_
      refine r_push (v := nI 1) d_X6_partHeap_23 ?_
      refine r_icmp_ge d_X6_partHeap_24 (fun c24 => ?_) (fun c24 => ?_)
      · -- taken at 24
        have c24 : 1 ≤ (sp_places lo hi m) := (nI_leI (a := 1) (b := (sp_places lo hi m)) (by omega) (by omega)).mp c24
        refine r_lload_2 d_X6_partHeap_31 ?_
        refine r_iload_5 d_X6_partHeap_32 ?_
        refine r_i2l d_X6_partHeap_34 ?_
        rw [nI_l (n := (sp_places lo hi m)) (by omega)]
        refine r_ldiv d_X6_partHeap_35 (pm_lne0 (n := (sp_places lo hi m)) (by omega) (by omega)) ?_
        rw [pk_lDiv (a := w) (b := (sp_places lo hi m)) (by omega) (by omega) (by omega)]
        refine r_lstore_6 d_X6_partHeap_36 (Nat.le_of_ble_eq_true rfl) (fun w hw => by cases hw <;> rfl) ?_
        refine r_aload_0 d_X6_partHeap_38 ?_
        refine r_iload_1 d_X6_partHeap_39 ?_
        refine r_V1 d_X6_partHeap_40_7 (c_X7_firstPlace (pmO_ne h68 hr) g ⟨by omega, hm⟩) (pmO_ne h68 hr) rfl rfl ⟨rfl, rfl⟩ (Nat.le_of_ble_eq_true rfl) ?_
        refine r_istore_8 d_X6_partHeap_43 (Nat.le_of_ble_eq_true rfl) (fun w hw => by cases hw <;> rfl) ?_
        refine r_iload_8 d_X6_partHeap_45 ?_
        refine r_istore_9 d_X6_partHeap_47 (Nat.le_of_ble_eq_true rfl) (fun w hw => by cases hw <;> rfl) ?_
        have K := lp_X6_partHeap (W := W) (Hp := Hp) (Nx := Nx) (al := al) (w := w) (b := (0, 0)) (F := fun v9 h1 => v9 = none ∧ h1 = pmO h W Hp (sp_ph k f lo hi m w Nx) al) hs0 g h68 ⟨by omega, hm⟩ (fun o => r_return d_X6_partHeap_97 rfl ⟨rfl, by rw [show sp_ph k f lo hi m w Nx = sp_pl k f lo m (w / sp_places lo hi m) Nx (sp_places lo hi m) by unfold sp_ph; rw [if_neg (by omega)]]⟩) (sp_places lo hi m) 0 none (by omega)
        exact K
      · -- not taken at 24
        have c24 : ¬ 1 ≤ (sp_places lo hi m) := fun zz9 => c24 ((nI_leI (a := 1) (b := (sp_places lo hi m)) (by omega) (by omega)).mpr zz9)
        exfalso; omega
    · -- not taken at 2
      have c2 : ¬ 2 ≤ m := fun zz9 => c2 ((nI_leI (a := 2) (b := m) (by omega) (by omega)).mpr zz9)
      refine r_aload_4 d_X6_partHeap_5 ?_
      refine r_iload_1 d_X6_partHeap_7 ?_
      refine r_dup2 d_X6_partHeap_8 rfl rfl ?_
      refine r_lald d_X6_partHeap_9 rfl (pm_ixN (by omega) (by omega)) ?_
      refine r_lload_2 d_X6_partHeap_10 ?_
      refine r_ladd d_X6_partHeap_11 ?_
      rw [lN_add]
      refine r_last d_X6_partHeap_12 rfl (pm_ixN (by omega) (by omega)) ?_
      rw [pm_lu, pmO_16]
      refine r_return d_X6_partHeap_13 rfl ?_
      exact ⟨rfl, by rw [show sp_ph k f lo hi m w Nx = va_up Nx m (Nx m + w) by unfold sp_ph; rw [if_pos (by omega)]]⟩
