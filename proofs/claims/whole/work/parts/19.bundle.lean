abbrev sp_T3 : Type := (Nat → Nat) × (Nat → Nat) × Nat
def sp_R (k f lo hi : Nat) (t : sp_T3) : sp_T3 := (va_cpy (sp_pp k f lo hi (sp_sh lo hi t.1 61) t.1 (pm_fl 0 t.2.1 61) 61) t.1 0 0 61, sp_pp k f lo hi (sp_sh lo hi t.1 61) t.1 (pm_fl 0 t.2.1 61) 61, t.2.2 * sp_sh lo hi t.1 61)
def sp_bd (lo hi : Nat) (Hp : Nat → Nat) : Prop := ∀ j, j < 61 → Hp j < 2 ^ 62 ∧ Hp j * sp_sh lo hi Hp 61 < 2 ^ 62
def sp_ww (k : Nat) (Hp g : Nat → Nat) : Nat → (Nat → Nat)
  | 0 => g
  | i + 1 => va_up (sp_ww k Hp g i) (i / k) (sp_ww k Hp g i (i / k) + Hp i)
/-- heaps, next heaps and the whole behind three rounds -/
def sp_S3 (k f lo hi m : Nat) (Hp Nx : Nat → Nat) : Nat → sp_T3
  | 0 => (va_up (pm_fl 0 Hp 61) m 1, Nx, 1)
  | r + 1 => sp_R k f lo hi (sp_S3 k f lo hi m Hp Nx r)
set_option maxRecDepth 10000 in
set_option maxHeartbeats 4000000 in
theorem lp_X6_partHeaps {h : pm_H} {W Hp Nx : Nat → Nat} {al a n k f lo hi : Nat} (hs0 : pm_sk h a n k f lo hi) (ok : pm_ok n k f lo hi) (h68 : 68 ≤ a) {g0 : Nat → Nat} (hB : sp_bd lo hi Hp) {F : Option Value → pm_H → Prop} {b : Nat × Nat} (K : pm_V e_X6_partHeaps 74 [some (.ref a), some (.ref 13), some (.long (lN (sp_sh lo hi Hp 61))), none, some (.int (nI 61))] [] (pmO h W Hp (sp_pp k f lo hi (sp_sh lo hi Hp 61) Hp g0 61) al) b F) : ∀ (d i : Nat), i + d = 61 → pm_V e_X6_partHeaps 30 [some (.ref a), some (.ref 13), some (.long (lN (sp_sh lo hi Hp 61))), none, some (.int (nI i))] [] (pmO h W Hp (sp_pp k f lo hi (sp_sh lo hi Hp 61) Hp g0 i) al) b F := by
  have g := ok
  obtain ⟨g1, g2, g3, g4, g5, g6, g7, g8⟩ := ok
  intro d
  induction d with
  | zero =>
    intro i hi9
    obtain rfl : i = 61 := by omega
    refine r_iload_4 d_X6_partHeaps_30 ?_
    refine r_push (v := nI 60) d_X6_partHeaps_32 ?_
    refine r_icmp_gt d_X6_partHeaps_34 (fun c34 => ?_) (fun c34 => absurd (by decide) c34)
    clear c34
    exact K
  | succ d ih =>
    intro i hi9
    obtain ⟨hB1, hB2⟩ := hB i (by omega)
    have hq := hs0
    rcases hq with ⟨hr, e1, e2⟩ | hr
    ·
      refine r_iload_4 d_X6_partHeaps_30 ?_
      refine r_push (v := nI 60) d_X6_partHeaps_32 ?_
      refine r_icmp_gt d_X6_partHeaps_34 (fun c34 => ?_) (fun c34 => ?_)
      · -- taken at 34
        have c34 : 60 < i := (nI_ltI (a := 60) (b := i) (by omega) (by omega)).mp c34
        exfalso; omega
      · -- not taken at 34
        have c34 : ¬ 60 < i := fun zz9 => c34 ((nI_ltI (a := 60) (b := i) (by omega) (by omega)).mpr zz9)
        refine r_aload_1 d_X6_partHeaps_37 ?_
        refine r_get d_X6_partHeaps_38 s4_heaps rfl rfl ?_
        refine r_iload_4 d_X6_partHeaps_41 ?_
        refine r_lald d_X6_partHeaps_43 rfl (pm_ixN (by omega) (by omega)) ?_
        refine r_pushl (v := lN 0) d_X6_partHeaps_44 ?_
        refine r_lcmp d_X6_partHeaps_45 ?_
        refine r_if_le d_X6_partHeaps_46 (fun c46 => ?_) (fun c46 => ?_)
        · -- taken at 46
          have c46 : (Hp i) ≤ 0 := ((lg_cmp_le (lN ((Hp i))) (lN (0))).trans (pk_lLE (a := (Hp i)) (b := 0) (by omega) (by omega))).mp c46
          refine r_iinc_4 d_X6_partHeaps_68 (Nat.le_of_ble_eq_true rfl) (fun w hw => by cases hw <;> rfl) ?_
          rw [nI_1]
          refine r_goto d_X6_partHeaps_71 ?_
          first
          | (rw [show sp_ph k f lo hi i (Hp i * (sp_sh lo hi Hp 61)) (sp_pp k f lo hi (sp_sh lo hi Hp 61) Hp g0 i) = sp_pp k f lo hi (sp_sh lo hi Hp 61) Hp g0 (i + 1) from (by simp only [sp_pp]; rw [if_pos (by omega)])]; exact ih (i + 1) (by omega))
          | (rw [show sp_pp k f lo hi (sp_sh lo hi Hp 61) Hp g0 i = sp_pp k f lo hi (sp_sh lo hi Hp 61) Hp g0 (i + 1) from (by simp only [sp_pp]; rw [if_neg (by omega)])]; exact ih (i + 1) (by omega))
        · -- not taken at 46
          have c46 : ¬ (Hp i) ≤ 0 := fun zz9 => c46 (((lg_cmp_le (lN ((Hp i))) (lN (0))).trans (pk_lLE (a := (Hp i)) (b := 0) (by omega) (by omega))).mpr zz9)
          refine r_aload_0 d_X6_partHeaps_49 ?_
          refine r_iload_4 d_X6_partHeaps_50 ?_
          refine r_aload_1 d_X6_partHeaps_52 ?_
          refine r_get d_X6_partHeaps_53 s4_heaps rfl rfl ?_
          refine r_iload_4 d_X6_partHeaps_56 ?_
          refine r_lald d_X6_partHeaps_58 rfl (pm_ixN (by omega) (by omega)) ?_
          refine r_lload_2 d_X6_partHeaps_59 ?_
          refine r_lmul d_X6_partHeaps_60 ?_
          rw [lN_mul]
          refine r_aload_1 d_X6_partHeaps_61 ?_
          refine r_get d_X6_partHeaps_62 s4_nextHeaps rfl rfl ?_
          refine r_V3v d_X6_partHeaps_65_6 (c_X6_partHeap hs0 g h68 (by omega) hB2) (pmO_ne h68 hr) rfl rfl ⟨rfl, rfl⟩ (Nat.le_of_ble_eq_true rfl) ?_
          refine r_iinc_4 d_X6_partHeaps_68 (Nat.le_of_ble_eq_true rfl) (fun w hw => by cases hw <;> rfl) ?_
          rw [nI_1]
          refine r_goto d_X6_partHeaps_71 ?_
          first
          | (rw [show sp_ph k f lo hi i (Hp i * (sp_sh lo hi Hp 61)) (sp_pp k f lo hi (sp_sh lo hi Hp 61) Hp g0 i) = sp_pp k f lo hi (sp_sh lo hi Hp 61) Hp g0 (i + 1) from (by simp only [sp_pp]; rw [if_pos (by omega)])]; exact ih (i + 1) (by omega))
          | (rw [show sp_pp k f lo hi (sp_sh lo hi Hp 61) Hp g0 i = sp_pp k f lo hi (sp_sh lo hi Hp 61) Hp g0 (i + 1) from (by simp only [sp_pp]; rw [if_neg (by omega)])]; exact ih (i + 1) (by omega))
    ·
      refine r_iload_4 d_X6_partHeaps_30 ?_
      refine r_push (v := nI 60) d_X6_partHeaps_32 ?_
      refine r_icmp_gt d_X6_partHeaps_34 (fun c34 => ?_) (fun c34 => ?_)
      · -- taken at 34
        have c34 : 60 < i := (nI_ltI (a := 60) (b := i) (by omega) (by omega)).mp c34
        exfalso; omega
      · -- not taken at 34
        have c34 : ¬ 60 < i := fun zz9 => c34 ((nI_ltI (a := 60) (b := i) (by omega) (by omega)).mpr zz9)
        refine r_aload_1 d_X6_partHeaps_37 ?_
        refine r_get d_X6_partHeaps_38 s4_heaps rfl rfl ?_
        refine r_iload_4 d_X6_partHeaps_41 ?_
        refine r_lald d_X6_partHeaps_43 rfl (pm_ixN (by omega) (by omega)) ?_
        refine r_pushl (v := lN 0) d_X6_partHeaps_44 ?_
        refine r_lcmp d_X6_partHeaps_45 ?_
        refine r_if_le d_X6_partHeaps_46 (fun c46 => ?_) (fun c46 => ?_)
        · -- taken at 46
          have c46 : (Hp i) ≤ 0 := ((lg_cmp_le (lN ((Hp i))) (lN (0))).trans (pk_lLE (a := (Hp i)) (b := 0) (by omega) (by omega))).mp c46
          refine r_iinc_4 d_X6_partHeaps_68 (Nat.le_of_ble_eq_true rfl) (fun w hw => by cases hw <;> rfl) ?_
          rw [nI_1]
          refine r_goto d_X6_partHeaps_71 ?_
          first
          | (rw [show sp_ph k f lo hi i (Hp i * (sp_sh lo hi Hp 61)) (sp_pp k f lo hi (sp_sh lo hi Hp 61) Hp g0 i) = sp_pp k f lo hi (sp_sh lo hi Hp 61) Hp g0 (i + 1) from (by simp only [sp_pp]; rw [if_pos (by omega)])]; exact ih (i + 1) (by omega))
          | (rw [show sp_pp k f lo hi (sp_sh lo hi Hp 61) Hp g0 i = sp_pp k f lo hi (sp_sh lo hi Hp 61) Hp g0 (i + 1) from (by simp only [sp_pp]; rw [if_neg (by omega)])]; exact ih (i + 1) (by omega))
        · -- not taken at 46
          have c46 : ¬ (Hp i) ≤ 0 := fun zz9 => c46 (((lg_cmp_le (lN ((Hp i))) (lN (0))).trans (pk_lLE (a := (Hp i)) (b := 0) (by omega) (by omega))).mpr zz9)
          refine r_aload_0 d_X6_partHeaps_49 ?_
          refine r_iload_4 d_X6_partHeaps_50 ?_
          refine r_aload_1 d_X6_partHeaps_52 ?_
          refine r_get d_X6_partHeaps_53 s4_heaps rfl rfl ?_
          refine r_iload_4 d_X6_partHeaps_56 ?_
          refine r_lald d_X6_partHeaps_58 rfl (pm_ixN (by omega) (by omega)) ?_
          refine r_lload_2 d_X6_partHeaps_59 ?_
          refine r_lmul d_X6_partHeaps_60 ?_
          rw [lN_mul]
          refine r_aload_1 d_X6_partHeaps_61 ?_
          refine r_get d_X6_partHeaps_62 s4_nextHeaps rfl rfl ?_
          refine r_V3v d_X6_partHeaps_65_7 (c_X6_partHeap hs0 g h68 (by omega) hB2) (pmO_ne h68 hr) rfl rfl ⟨rfl, rfl⟩ (Nat.le_of_ble_eq_true rfl) ?_
          refine r_iinc_4 d_X6_partHeaps_68 (Nat.le_of_ble_eq_true rfl) (fun w hw => by cases hw <;> rfl) ?_
          rw [nI_1]
          refine r_goto d_X6_partHeaps_71 ?_
          first
          | (rw [show sp_ph k f lo hi i (Hp i * (sp_sh lo hi Hp 61)) (sp_pp k f lo hi (sp_sh lo hi Hp 61) Hp g0 i) = sp_pp k f lo hi (sp_sh lo hi Hp 61) Hp g0 (i + 1) from (by simp only [sp_pp]; rw [if_pos (by omega)])]; exact ih (i + 1) (by omega))
          | (rw [show sp_pp k f lo hi (sp_sh lo hi Hp 61) Hp g0 i = sp_pp k f lo hi (sp_sh lo hi Hp 61) Hp g0 (i + 1) from (by simp only [sp_pp]; rw [if_neg (by omega)])]; exact ih (i + 1) (by omega))
set_option maxRecDepth 10000 in
set_option maxHeartbeats 4000000 in
theorem c_X6_partHeaps {h : pm_H} {W Hp Nx : Nat → Nat} {al a n k f lo hi : Nat} (hs0 : pm_sk h a n k f lo hi) (ok : pm_ok n k f lo hi) (h68 : 68 ≤ a) (hB : sp_bd lo hi Hp) : pm_C0 e_X6_partHeaps [.ref a, .ref 13] (pmO h W Hp Nx al) (pmO h W (sp_R k f lo hi (Hp, Nx, al)).1 (sp_R k f lo hi (Hp, Nx, al)).2.1 (sp_R k f lo hi (Hp, Nx, al)).2.2) := by
  have g := ok
  obtain ⟨g1, g2, g3, g4, g5, g6, g7, g8⟩ := ok
  have hq := hs0
  rcases hq with ⟨hr, e1, e2⟩ | hr
  ·
    refine pm_enter rfl (Nat.le_of_ble_eq_true rfl) ?_
    show pm_V e_X6_partHeaps 0 [some (.ref a), some (.ref 13), none, none, none] [] (pmO h W Hp Nx al) (0, 0) _
    refine r_aload_0 d_X6_partHeaps_0 ?_
    refine r_aload_1 d_X6_partHeaps_1 ?_
    refine r_get d_X6_partHeaps_2 s4_heaps rfl rfl ?_
    refine r_V1 d_X6_partHeaps_5_6 (c_X6_sharesOf hs0 g h68 (fun j hj => (hB j hj).1)) (pmO_ne h68 hr) rfl rfl ⟨rfl, rfl⟩ (Nat.le_of_ble_eq_true rfl) ?_
    refine r_lstore_2 d_X6_partHeaps_8 (Nat.le_of_ble_eq_true rfl) (fun w hw => by cases hw <;> rfl) ?_
    refine r_aload_1 d_X6_partHeaps_9 ?_
    refine r_dup d_X6_partHeaps_10 rfl ?_
    refine r_get d_X6_partHeaps_11 s4_all rfl rfl ?_
    refine r_lload_2 d_X6_partHeaps_14 ?_
    refine r_lmul d_X6_partHeaps_15 ?_
    rw [lN_mul]
    refine r_put d_X6_partHeaps_16 s4_all rfl (Nat.le_of_ble_eq_true rfl) ⟨rfl, rfl⟩ ?_
    rw [show [Value.ref 14, .ref 15, .ref 16, .long (lN al)].set 3 (.long (lN (al * (sp_sh lo hi Hp 61)))) = [.ref 14, .ref 15, .ref 16, .long (lN (al * (sp_sh lo hi Hp 61)))] from rfl, pmO_13]
    refine r_aload_1 d_X6_partHeaps_19 ?_
    refine r_get d_X6_partHeaps_20 s4_nextHeaps rfl rfl ?_
    refine r_pushl (v := lN 0) d_X6_partHeaps_23 ?_
    refine r_S2v d_X6_partHeaps_24 (c_J7_fill_d0a16 (n := 61) (by decide) rfl) ⟨rfl, rfl⟩ (Nat.le_of_ble_eq_true rfl) ?_
    rw [pm_lfl, pmO_16]
    refine r_push (v := nI 0) d_X6_partHeaps_27 ?_
    refine r_istore_4 d_X6_partHeaps_28 (Nat.le_of_ble_eq_true rfl) (fun w hw => by cases hw <;> rfl) ?_
    refine lp_X6_partHeaps (Nx := Nx) (g0 := pm_fl 0 Nx 61) hs0 g h68 hB ?_ 61 0 (by omega)
    refine r_aload_1 d_X6_partHeaps_74 ?_
    refine r_get d_X6_partHeaps_75 s4_nextHeaps rfl rfl ?_
    refine r_push (v := nI 0) d_X6_partHeaps_78 ?_
    refine r_aload_1 d_X6_partHeaps_79 ?_
    refine r_get d_X6_partHeaps_80 s4_heaps rfl rfl ?_
    refine r_push (v := nI 0) d_X6_partHeaps_83 ?_
    refine r_aload_1 d_X6_partHeaps_84 ?_
    refine r_get d_X6_partHeaps_85 s4_heaps rfl rfl ?_
    refine r_alen d_X6_partHeaps_88 rfl (t0 := 1) (n := 61) rfl (fun z => by cases z) rfl ?_
    refine r_copyl (t0 := 1) (sp := 0) (dp := 0) (k := 61) d_X6_partHeaps_89 wm_417 wm_419 wm_418 wm_55 rfl rfl rfl rfl ⟨by decide, by decide⟩ ⟨by decide, by decide⟩ ⟨by decide, by decide⟩ (by decide) (by decide) (fun i hi => rfl) (by decide) (by decide +kernel) ?_
    rw [pm_lcp, pmO_15]
    refine r_return d_X6_partHeaps_92 rfl ?_
    exact ⟨rfl, rfl⟩
  ·
    refine pm_enter rfl (Nat.le_of_ble_eq_true rfl) ?_
    show pm_V e_X6_partHeaps 0 [some (.ref a), some (.ref 13), none, none, none] [] (pmO h W Hp Nx al) (0, 0) _
    refine r_aload_0 d_X6_partHeaps_0 ?_
    refine r_aload_1 d_X6_partHeaps_1 ?_
    refine r_get d_X6_partHeaps_2 s4_heaps rfl rfl ?_
    refine r_V1 d_X6_partHeaps_5_7 (c_X6_sharesOf hs0 g h68 (fun j hj => (hB j hj).1)) (pmO_ne h68 hr) rfl rfl ⟨rfl, rfl⟩ (Nat.le_of_ble_eq_true rfl) ?_
    refine r_lstore_2 d_X6_partHeaps_8 (Nat.le_of_ble_eq_true rfl) (fun w hw => by cases hw <;> rfl) ?_
    refine r_aload_1 d_X6_partHeaps_9 ?_
    refine r_dup d_X6_partHeaps_10 rfl ?_
    refine r_get d_X6_partHeaps_11 s4_all rfl rfl ?_
    refine r_lload_2 d_X6_partHeaps_14 ?_
    refine r_lmul d_X6_partHeaps_15 ?_
    rw [lN_mul]
    refine r_put d_X6_partHeaps_16 s4_all rfl (Nat.le_of_ble_eq_true rfl) ⟨rfl, rfl⟩ ?_
    rw [show [Value.ref 14, .ref 15, .ref 16, .long (lN al)].set 3 (.long (lN (al * (sp_sh lo hi Hp 61)))) = [.ref 14, .ref 15, .ref 16, .long (lN (al * (sp_sh lo hi Hp 61)))] from rfl, pmO_13]
    refine r_aload_1 d_X6_partHeaps_19 ?_
    refine r_get d_X6_partHeaps_20 s4_nextHeaps rfl rfl ?_
    refine r_pushl (v := lN 0) d_X6_partHeaps_23 ?_
    refine r_S2v d_X6_partHeaps_24 (c_J7_fill_d0a16 (n := 61) (by decide) rfl) ⟨rfl, rfl⟩ (Nat.le_of_ble_eq_true rfl) ?_
    rw [pm_lfl, pmO_16]
    refine r_push (v := nI 0) d_X6_partHeaps_27 ?_
    refine r_istore_4 d_X6_partHeaps_28 (Nat.le_of_ble_eq_true rfl) (fun w hw => by cases hw <;> rfl) ?_
    refine lp_X6_partHeaps (Nx := Nx) (g0 := pm_fl 0 Nx 61) hs0 g h68 hB ?_ 61 0 (by omega)
    refine r_aload_1 d_X6_partHeaps_74 ?_
    refine r_get d_X6_partHeaps_75 s4_nextHeaps rfl rfl ?_
    refine r_push (v := nI 0) d_X6_partHeaps_78 ?_
    refine r_aload_1 d_X6_partHeaps_79 ?_
    refine r_get d_X6_partHeaps_80 s4_heaps rfl rfl ?_
    refine r_push (v := nI 0) d_X6_partHeaps_83 ?_
    refine r_aload_1 d_X6_partHeaps_84 ?_
    refine r_get d_X6_partHeaps_85 s4_heaps rfl rfl ?_
    refine r_alen d_X6_partHeaps_88 rfl (t0 := 1) (n := 61) rfl (fun z => by cases z) rfl ?_
    refine r_copyl (t0 := 1) (sp := 0) (dp := 0) (k := 61) d_X6_partHeaps_89 wm_417 wm_419 wm_418 wm_55 rfl rfl rfl rfl ⟨by decide, by decide⟩ ⟨by decide, by decide⟩ ⟨by decide, by decide⟩ (by decide) (by decide) (fun i hi => rfl) (by decide) (by decide +kernel) ?_
    rw [pm_lcp, pmO_15]
    refine r_return d_X6_partHeaps_92 rfl ?_
    exact ⟨rfl, rfl⟩
set_option maxRecDepth 10000 in
set_option maxHeartbeats 4000000 in
theorem lp_X6_weighBundle {h : pm_H} {W Hp Nx : Nat → Nat} {al a n k f lo hi : Nat} (hs0 : pm_sk h a n k f lo hi) (ok : pm_ok n k f lo hi) (h68 : 68 ≤ a) {g0 : Nat → Nat} {m : Nat} {F : Option Value → pm_H → Prop} {b : Nat × Nat} (K : ∀ o, pm_V e_X6_weighBundle 72 [some (.ref a), some (.int (nI m)), some (.ref 13), some (.int (nI 61)), o] [] (pmO h (sp_ww k Hp g0 61) Hp Nx al) b F) : ∀ (d i : Nat) (o : Option Value), i + d = 61 → pm_V e_X6_weighBundle 25 [some (.ref a), some (.int (nI m)), some (.ref 13), some (.int (nI i)), o] [] (pmO h (sp_ww k Hp g0 i) Hp Nx al) b F := by
  have g := ok
  obtain ⟨g1, g2, g3, g4, g5, g6, g7, g8⟩ := ok
  intro d
  induction d with
  | zero =>
    intro i o hi9
    obtain rfl : i = 61 := by omega
    refine r_iload_3 d_X6_weighBundle_25 ?_
    refine r_push (v := nI 60) d_X6_weighBundle_26 ?_
    refine r_icmp_gt d_X6_weighBundle_28 (fun c28 => ?_) (fun c28 => absurd (by decide) c28)
    clear c28
    exact K _
  | succ d ih =>
    intro i o hi9
    have hdk : i / k ≤ 30 := Nat.le_trans (Nat.div_le_div_right (show i ≤ 60 by omega)) (Nat.div_le_div_left g3 (by decide))
    have hq := hs0
    rcases hq with ⟨hr, e1, e2⟩ | hr
    ·
      refine r_iload_3 d_X6_weighBundle_25 ?_
      refine r_push (v := nI 60) d_X6_weighBundle_26 ?_
      refine r_icmp_gt d_X6_weighBundle_28 (fun c28 => ?_) (fun c28 => ?_)
      · -- taken at 28
        have c28 : 60 < i := (nI_ltI (a := 60) (b := i) (by omega) (by omega)).mp c28
        exfalso; omega
      · -- not taken at 28
        have c28 : ¬ 60 < i := fun zz9 => c28 ((nI_ltI (a := 60) (b := i) (by omega) (by omega)).mpr zz9)
        refine r_aload_0 d_X6_weighBundle_31 ?_
        refine r_iload_3 d_X6_weighBundle_32 ?_
        refine r_V1 d_X6_weighBundle_33_6 (c_X6_lineOf (pm_sk_O hs0 h68) g (by omega)) (pmO_ne h68 hr) rfl rfl ⟨rfl, rfl⟩ (Nat.le_of_ble_eq_true rfl) ?_
        refine r_istore_4 d_X6_weighBundle_36 (Nat.le_of_ble_eq_true rfl) (fun w hw => by cases hw <;> rfl) ?_
        refine r_iload_4 d_X6_weighBundle_38 ?_
        refine r_if_lt d_X6_weighBundle_40 (fun c40 => ?_) (fun c40 => ?_)
        · -- taken at 40
          have c40 : (i / k) < 0 := (nI_ltI (a := (i / k)) (b := 0) (by omega) (by omega)).mp c40
          exact absurd c40 (Nat.not_lt_zero _)
        · -- not taken at 40
          have c40 : ¬ (i / k) < 0 := fun zz9 => c40 ((nI_ltI (a := (i / k)) (b := 0) (by omega) (by omega)).mpr zz9)
          refine r_iload_4 d_X6_weighBundle_43 ?_
          refine r_push (v := nI 30) d_X6_weighBundle_45 ?_
          refine r_icmp_gt d_X6_weighBundle_47 (fun c47 => ?_) (fun c47 => ?_)
          · -- taken at 47
            have c47 : 30 < (i / k) := (nI_ltI (a := 30) (b := (i / k)) (by omega) (by omega)).mp c47
            exfalso; omega
          · -- not taken at 47
            have c47 : ¬ 30 < (i / k) := fun zz9 => c47 ((nI_ltI (a := 30) (b := (i / k)) (by omega) (by omega)).mpr zz9)
            refine r_aload_2 d_X6_weighBundle_50 ?_
            refine r_get d_X6_weighBundle_51 s4_weights rfl rfl ?_
            refine r_iload_4 d_X6_weighBundle_54 ?_
            refine r_dup2 d_X6_weighBundle_56 rfl rfl ?_
            refine r_lald d_X6_weighBundle_57 rfl (pm_ixN (by omega) (by omega)) ?_
            refine r_aload_2 d_X6_weighBundle_58 ?_
            refine r_get d_X6_weighBundle_59 s4_heaps rfl rfl ?_
            refine r_iload_3 d_X6_weighBundle_62 ?_
            refine r_lald d_X6_weighBundle_63 rfl (pm_ixN (by omega) (by omega)) ?_
            refine r_ladd d_X6_weighBundle_64 ?_
            rw [lN_add]
            refine r_last d_X6_weighBundle_65 rfl (pm_ixN (by omega) (by omega)) ?_
            rw [pm_lu, pmO_14]
            refine r_iinc_3 d_X6_weighBundle_66 (Nat.le_of_ble_eq_true rfl) (fun w hw => by cases hw <;> rfl) ?_
            rw [nI_1]
            refine r_goto d_X6_weighBundle_69 ?_
            exact ih (i + 1) _ (by omega)
    ·
      refine r_iload_3 d_X6_weighBundle_25 ?_
      refine r_push (v := nI 60) d_X6_weighBundle_26 ?_
      refine r_icmp_gt d_X6_weighBundle_28 (fun c28 => ?_) (fun c28 => ?_)
      · -- taken at 28
        have c28 : 60 < i := (nI_ltI (a := 60) (b := i) (by omega) (by omega)).mp c28
        exfalso; omega
      · -- not taken at 28
        have c28 : ¬ 60 < i := fun zz9 => c28 ((nI_ltI (a := 60) (b := i) (by omega) (by omega)).mpr zz9)
        refine r_aload_0 d_X6_weighBundle_31 ?_
        refine r_iload_3 d_X6_weighBundle_32 ?_
        refine r_V1 d_X6_weighBundle_33_7 (c_X6_lineOf (pm_sk_O hs0 h68) g (by omega)) (pmO_ne h68 hr) rfl rfl ⟨rfl, rfl⟩ (Nat.le_of_ble_eq_true rfl) ?_
        refine r_istore_4 d_X6_weighBundle_36 (Nat.le_of_ble_eq_true rfl) (fun w hw => by cases hw <;> rfl) ?_
        refine r_iload_4 d_X6_weighBundle_38 ?_
        refine r_if_lt d_X6_weighBundle_40 (fun c40 => ?_) (fun c40 => ?_)
        · -- taken at 40
          have c40 : (i / k) < 0 := (nI_ltI (a := (i / k)) (b := 0) (by omega) (by omega)).mp c40
          exact absurd c40 (Nat.not_lt_zero _)
        · -- not taken at 40
          have c40 : ¬ (i / k) < 0 := fun zz9 => c40 ((nI_ltI (a := (i / k)) (b := 0) (by omega) (by omega)).mpr zz9)
          refine r_iload_4 d_X6_weighBundle_43 ?_
          refine r_push (v := nI 30) d_X6_weighBundle_45 ?_
          refine r_icmp_gt d_X6_weighBundle_47 (fun c47 => ?_) (fun c47 => ?_)
          · -- taken at 47
            have c47 : 30 < (i / k) := (nI_ltI (a := 30) (b := (i / k)) (by omega) (by omega)).mp c47
            exfalso; omega
          · -- not taken at 47
            have c47 : ¬ 30 < (i / k) := fun zz9 => c47 ((nI_ltI (a := 30) (b := (i / k)) (by omega) (by omega)).mpr zz9)
            refine r_aload_2 d_X6_weighBundle_50 ?_
            refine r_get d_X6_weighBundle_51 s4_weights rfl rfl ?_
            refine r_iload_4 d_X6_weighBundle_54 ?_
            refine r_dup2 d_X6_weighBundle_56 rfl rfl ?_
            refine r_lald d_X6_weighBundle_57 rfl (pm_ixN (by omega) (by omega)) ?_
            refine r_aload_2 d_X6_weighBundle_58 ?_
            refine r_get d_X6_weighBundle_59 s4_heaps rfl rfl ?_
            refine r_iload_3 d_X6_weighBundle_62 ?_
            refine r_lald d_X6_weighBundle_63 rfl (pm_ixN (by omega) (by omega)) ?_
            refine r_ladd d_X6_weighBundle_64 ?_
            rw [lN_add]
            refine r_last d_X6_weighBundle_65 rfl (pm_ixN (by omega) (by omega)) ?_
            rw [pm_lu, pmO_14]
            refine r_iinc_3 d_X6_weighBundle_66 (Nat.le_of_ble_eq_true rfl) (fun w hw => by cases hw <;> rfl) ?_
            rw [nI_1]
            refine r_goto d_X6_weighBundle_69 ?_
            exact ih (i + 1) _ (by omega)
set_option maxRecDepth 10000 in
set_option maxHeartbeats 4000000 in
theorem c_X6_weighBundle {h : pm_H} {W Hp Nx : Nat → Nat} {al a n k f lo hi : Nat} (hs0 : pm_sk h a n k f lo hi) (ok : pm_ok n k f lo hi) (h68 : 68 ≤ a) {m : Nat} (hm : m ≤ 60) (hB : ∀ r, r < 3 → sp_bd lo hi (sp_S3 k f lo hi m Hp Nx r).1) : pm_C0 e_X6_weighBundle [.ref a, .int (nI m), .ref 13] (pmO h W Hp Nx al) (pmO h (sp_ww k (sp_S3 k f lo hi m Hp Nx 3).1 (pm_fl 0 W 31) 61) (sp_S3 k f lo hi m Hp Nx 3).1 (sp_S3 k f lo hi m Hp Nx 3).2.1 (sp_S3 k f lo hi m Hp Nx 3).2.2) := by
  have g := ok
  obtain ⟨g1, g2, g3, g4, g5, g6, g7, g8⟩ := ok
  have hq := hs0
  rcases hq with ⟨hr, e1, e2⟩ | hr
  ·
    refine pm_enter rfl (Nat.le_of_ble_eq_true rfl) ?_
    show pm_V e_X6_weighBundle 0 [some (.ref a), some (.int (nI m)), some (.ref 13), none, none] [] (pmO h W Hp Nx al) (0, 0) _
    refine r_aload_2 d_X6_weighBundle_0 ?_
    refine r_iload_1 d_X6_weighBundle_1 ?_
    refine r_V1v d_X6_weighBundle_2 (c_X4_beginBundle hm) rfl rfl rfl ⟨rfl, rfl⟩ (Nat.le_of_ble_eq_true rfl) ?_
    refine r_push (v := nI 0) d_X6_weighBundle_5 ?_
    refine r_istore_3 d_X6_weighBundle_6 (Nat.le_of_ble_eq_true rfl) (fun w hw => by cases hw <;> rfl) ?_
    refine r_iload_3 d_X6_weighBundle_7 ?_
    refine r_push (v := nI 3) d_X6_weighBundle_8 ?_
    refine r_icmp_ge d_X6_weighBundle_9 (fun c9 => absurd c9 (by decide)) (fun c9 => ?_)
    clear c9
    refine r_aload_0 d_X6_weighBundle_12 ?_
    refine r_aload_2 d_X6_weighBundle_13 ?_
    refine r_V1v d_X6_weighBundle_14_6 (c_X6_partHeaps hs0 g h68 (hB 0 (by decide))) (pmO_ne h68 hr) rfl rfl ⟨rfl, rfl⟩ (Nat.le_of_ble_eq_true rfl) ?_
    refine r_iinc_3 d_X6_weighBundle_17 (Nat.le_of_ble_eq_true rfl) (fun w hw => by cases hw <;> rfl) ?_
    rw [show nI 0 + 1 = nI 1 from rfl]
    refine r_goto d_X6_weighBundle_20 ?_
    refine r_iload_3 d_X6_weighBundle_7 ?_
    refine r_push (v := nI 3) d_X6_weighBundle_8 ?_
    refine r_icmp_ge d_X6_weighBundle_9 (fun c9 => absurd c9 (by decide)) (fun c9 => ?_)
    clear c9
    refine r_aload_0 d_X6_weighBundle_12 ?_
    refine r_aload_2 d_X6_weighBundle_13 ?_
    refine r_V1v d_X6_weighBundle_14_6 (c_X6_partHeaps hs0 g h68 (hB 1 (by decide))) (pmO_ne h68 hr) rfl rfl ⟨rfl, rfl⟩ (Nat.le_of_ble_eq_true rfl) ?_
    refine r_iinc_3 d_X6_weighBundle_17 (Nat.le_of_ble_eq_true rfl) (fun w hw => by cases hw <;> rfl) ?_
    rw [show nI 1 + 1 = nI 2 from rfl]
    refine r_goto d_X6_weighBundle_20 ?_
    refine r_iload_3 d_X6_weighBundle_7 ?_
    refine r_push (v := nI 3) d_X6_weighBundle_8 ?_
    refine r_icmp_ge d_X6_weighBundle_9 (fun c9 => absurd c9 (by decide)) (fun c9 => ?_)
    clear c9
    refine r_aload_0 d_X6_weighBundle_12 ?_
    refine r_aload_2 d_X6_weighBundle_13 ?_
    refine r_V1v d_X6_weighBundle_14_6 (c_X6_partHeaps hs0 g h68 (hB 2 (by decide))) (pmO_ne h68 hr) rfl rfl ⟨rfl, rfl⟩ (Nat.le_of_ble_eq_true rfl) ?_
    refine r_iinc_3 d_X6_weighBundle_17 (Nat.le_of_ble_eq_true rfl) (fun w hw => by cases hw <;> rfl) ?_
    rw [show nI 2 + 1 = nI 3 from rfl]
    refine r_goto d_X6_weighBundle_20 ?_
    refine r_iload_3 d_X6_weighBundle_7 ?_
    refine r_push (v := nI 3) d_X6_weighBundle_8 ?_
    refine r_icmp_ge d_X6_weighBundle_9 (fun c9 => ?_) (fun c9 => absurd (by decide) c9)
    clear c9
    refine r_push (v := nI 0) d_X6_weighBundle_23 ?_
    refine r_istore_3 d_X6_weighBundle_24 (Nat.le_of_ble_eq_true rfl) (fun w hw => by cases hw <;> rfl) ?_
    exact lp_X6_weighBundle (W := W) hs0 g h68 (fun o => r_return d_X6_weighBundle_72 rfl ⟨rfl, rfl⟩) 61 0 none (by omega)
  ·
    refine pm_enter rfl (Nat.le_of_ble_eq_true rfl) ?_
    show pm_V e_X6_weighBundle 0 [some (.ref a), some (.int (nI m)), some (.ref 13), none, none] [] (pmO h W Hp Nx al) (0, 0) _
    refine r_aload_2 d_X6_weighBundle_0 ?_
    refine r_iload_1 d_X6_weighBundle_1 ?_
    refine r_V1v d_X6_weighBundle_2 (c_X4_beginBundle hm) rfl rfl rfl ⟨rfl, rfl⟩ (Nat.le_of_ble_eq_true rfl) ?_
    refine r_push (v := nI 0) d_X6_weighBundle_5 ?_
    refine r_istore_3 d_X6_weighBundle_6 (Nat.le_of_ble_eq_true rfl) (fun w hw => by cases hw <;> rfl) ?_
    refine r_iload_3 d_X6_weighBundle_7 ?_
    refine r_push (v := nI 3) d_X6_weighBundle_8 ?_
    refine r_icmp_ge d_X6_weighBundle_9 (fun c9 => absurd c9 (by decide)) (fun c9 => ?_)
    clear c9
    refine r_aload_0 d_X6_weighBundle_12 ?_
    refine r_aload_2 d_X6_weighBundle_13 ?_
    refine r_V1v d_X6_weighBundle_14_7 (c_X6_partHeaps hs0 g h68 (hB 0 (by decide))) (pmO_ne h68 hr) rfl rfl ⟨rfl, rfl⟩ (Nat.le_of_ble_eq_true rfl) ?_
    refine r_iinc_3 d_X6_weighBundle_17 (Nat.le_of_ble_eq_true rfl) (fun w hw => by cases hw <;> rfl) ?_
    rw [show nI 0 + 1 = nI 1 from rfl]
    refine r_goto d_X6_weighBundle_20 ?_
    refine r_iload_3 d_X6_weighBundle_7 ?_
    refine r_push (v := nI 3) d_X6_weighBundle_8 ?_
    refine r_icmp_ge d_X6_weighBundle_9 (fun c9 => absurd c9 (by decide)) (fun c9 => ?_)
    clear c9
    refine r_aload_0 d_X6_weighBundle_12 ?_
    refine r_aload_2 d_X6_weighBundle_13 ?_
    refine r_V1v d_X6_weighBundle_14_7 (c_X6_partHeaps hs0 g h68 (hB 1 (by decide))) (pmO_ne h68 hr) rfl rfl ⟨rfl, rfl⟩ (Nat.le_of_ble_eq_true rfl) ?_
    refine r_iinc_3 d_X6_weighBundle_17 (Nat.le_of_ble_eq_true rfl) (fun w hw => by cases hw <;> rfl) ?_
    rw [show nI 1 + 1 = nI 2 from rfl]
    refine r_goto d_X6_weighBundle_20 ?_
    refine r_iload_3 d_X6_weighBundle_7 ?_
    refine r_push (v := nI 3) d_X6_weighBundle_8 ?_
    refine r_icmp_ge d_X6_weighBundle_9 (fun c9 => absurd c9 (by decide)) (fun c9 => ?_)
    clear c9
    refine r_aload_0 d_X6_weighBundle_12 ?_
    refine r_aload_2 d_X6_weighBundle_13 ?_
    refine r_V1v d_X6_weighBundle_14_7 (c_X6_partHeaps hs0 g h68 (hB 2 (by decide))) (pmO_ne h68 hr) rfl rfl ⟨rfl, rfl⟩ (Nat.le_of_ble_eq_true rfl) ?_
    refine r_iinc_3 d_X6_weighBundle_17 (Nat.le_of_ble_eq_true rfl) (fun w hw => by cases hw <;> rfl) ?_
    rw [show nI 2 + 1 = nI 3 from rfl]
    refine r_goto d_X6_weighBundle_20 ?_
    refine r_iload_3 d_X6_weighBundle_7 ?_
    refine r_push (v := nI 3) d_X6_weighBundle_8 ?_
    refine r_icmp_ge d_X6_weighBundle_9 (fun c9 => ?_) (fun c9 => absurd (by decide) c9)
    clear c9
    refine r_push (v := nI 0) d_X6_weighBundle_23 ?_
    refine r_istore_3 d_X6_weighBundle_24 (Nat.le_of_ble_eq_true rfl) (fun w hw => by cases hw <;> rfl) ?_
    exact lp_X6_weighBundle (W := W) hs0 g h68 (fun o => r_return d_X6_weighBundle_72 rfl ⟨rfl, rfl⟩) 61 0 none (by omega)
set_option maxRecDepth 10000 in
set_option maxHeartbeats 4000000 in
theorem c_X6_weigh {h : pm_H} {W Hp Nx : Nat → Nat} {al a n k f lo hi : Nat} (hs0 : pm_sk h a n k f lo hi) (ok : pm_ok n k f lo hi) (h68 : 68 ≤ a) (hB : ∀ r, r < 3 → sp_bd lo hi (sp_S3 k f lo hi n Hp Nx r).1) : pm_C0 e_X6_weigh [.ref a, .ref 13] (pmO h W Hp Nx al) (pmO h (sp_ww k (sp_S3 k f lo hi n Hp Nx 3).1 (pm_fl 0 W 31) 61) (sp_S3 k f lo hi n Hp Nx 3).1 (sp_S3 k f lo hi n Hp Nx 3).2.1 (sp_S3 k f lo hi n Hp Nx 3).2.2) := by
  have g := ok
  obtain ⟨g1, g2, g3, g4, g5, g6, g7, g8⟩ := ok
  have hq := hs0
  rcases hq with ⟨hr, e1, e2⟩ | hr
  ·
    refine pm_enter rfl (Nat.le_of_ble_eq_true rfl) ?_
    show pm_V e_X6_weigh 0 [some (.ref a), some (.ref 13)] [] (pmO h W Hp Nx al) (0, 0) _
    refine r_aload_0 d_X6_weigh_0 ?_
    refine r_aload_0 d_X6_weigh_1 ?_
    refine r_get d_X6_weigh_2 s6_bundle (pmO_ne h68 hr) rfl ?_
    refine r_aload_1 d_X6_weigh_5 ?_
    refine r_V2v d_X6_weigh_6_6 (c_X6_weighBundle hs0 g h68 g2 hB) (pmO_ne h68 hr) rfl rfl ⟨rfl, rfl⟩ (Nat.le_of_ble_eq_true rfl) ?_
    refine r_return d_X6_weigh_9 rfl ?_
    exact ⟨rfl, rfl⟩
  ·
    refine pm_enter rfl (Nat.le_of_ble_eq_true rfl) ?_
    show pm_V e_X6_weigh 0 [some (.ref a), some (.ref 13)] [] (pmO h W Hp Nx al) (0, 0) _
    refine r_aload_0 d_X6_weigh_0 ?_
    refine r_aload_0 d_X6_weigh_1 ?_
    refine r_get d_X6_weigh_2 s7_bundle (pmO_ne h68 hr) rfl ?_
    refine r_aload_1 d_X6_weigh_5 ?_
    refine r_V2v d_X6_weigh_6_7 (c_X6_weighBundle hs0 g h68 g2 hB) (pmO_ne h68 hr) rfl rfl ⟨rfl, rfl⟩ (Nat.le_of_ble_eq_true rfl) ?_
    refine r_return d_X6_weigh_9 rfl ?_
    exact ⟨rfl, rfl⟩
