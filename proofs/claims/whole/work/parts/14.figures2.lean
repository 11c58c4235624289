def pm_fc {α : Type} (p f : Nat → α) (i : Nat) : Nat → α := fun j => if j < i then p j else f j
theorem pm_fc_0 {α : Type} (p f : Nat → α) : pm_fc p f 0 = f := by funext j; simp [pm_fc]
theorem pm_fc_s (p f : Nat → Int32) (i : Nat) : upd (pm_fc p f i) i (p i) = pm_fc p f (i + 1) := by
  funext j
  simp only [upd, pm_fc]
  by_cases h : j = i
  · subst h; simp
  · by_cases h2 : j < i
    · simp [h, h2, Nat.lt_succ_of_lt h2]
    · have : ¬ j < i + 1 := by omega
      simp [h, h2, this]
theorem pm_fc_sL (p f : Nat → Int64) (i : Nat) : vp_updL (pm_fc p f i) i (p i) = pm_fc p f (i + 1) := by
  funext j
  simp only [vp_updL, pm_fc]
  by_cases h : j = i
  · subst h; simp
  · by_cases h2 : j < i
    · simp [h, h2, Nat.lt_succ_of_lt h2]
    · have : ¬ j < i + 1 := by omega
      simp [h, h2, this]
theorem pm_fc_in {α : Type} {p f : Nat → α} {i j : Nat} (h : j < i) : pm_fc p f i j = p j := by simp [pm_fc, h]
theorem pm_fc_out {α : Type} {p f : Nat → α} {i j : Nat} (h : i ≤ j) : pm_fc p f i j = f j := by
  have : ¬ j < i := by omega
  simp [pm_fc, this]
/-- a figure's i-th line behind an act -/
def sp_act (t : Nat) (g : Nat → Nat) (i : Nat) : Nat := if t = 0 then sp_chg (g i) else if t = 1 then g (5 - i) else if t = 2 then 15 - g i else g (if i < 3 then i + 1 else i - 1)
set_option maxRecDepth 10000 in
set_option maxHeartbeats 4000000 in
theorem lp_X3_becomeAfter {h : pm_H} {o m t : Nat} {f f2 : Nat → Int32} {g : Nat → Nat} (ha : h.2 4 = some (.inr (3, [.ref 5]))) (ho : h.2 o = some (.inr (3, [.ref m]))) (ho5 : o ≠ 5) (hm : h.2 m = some (at_I 6 f2)) (hm5 : m ≠ 5) (hf : ∀ j, j < 6 → f2 j = nI (g j)) (hg : ∀ j, j < 6 → 6 ≤ g j ∧ g j ≤ 9) (ht : t ≤ 3) {F : Option Value → pm_H → Prop} {b : Nat × Nat} (K : pm_V e_X3_becomeAfter 120 [some (.ref 4), some (.int (nI t)), some (.ref o), some (.int (nI 6))] [] (pm_up h 5 (at_I 6 (pm_fc (fun j => nI (sp_act t g j)) f 6))) b F) : ∀ (d i : Nat), i + d = 6 → pm_V e_X3_becomeAfter 2 [some (.ref 4), some (.int (nI t)), some (.ref o), some (.int (nI i))] [] (pm_up h 5 (at_I 6 (pm_fc (fun j => nI (sp_act t g j)) f i))) b F := by
  intro d
  induction d with
  | zero =>
    intro i hi
    obtain rfl : i = 6 := by omega
    refine r_iload_3 d_X3_becomeAfter_2 ?_
    refine r_push (v := nI 6) d_X3_becomeAfter_3 ?_
    refine r_icmp_ge d_X3_becomeAfter_5 (fun c5 => ?_) (fun c5 => absurd (by decide) c5)
    clear c5
    exact K
  | succ d ih =>
    intro i hi
    refine r_iload_3 d_X3_becomeAfter_2 ?_
    refine r_push (v := nI 6) d_X3_becomeAfter_3 ?_
    refine r_icmp_ge d_X3_becomeAfter_5 (fun c5 => ?_) (fun c5 => ?_)
    · -- taken at 5
      have c5 : 6 ≤ i := (nI_leI (a := 6) (b := i) (by omega) (by omega)).mp c5
      exfalso; omega
    · -- not taken at 5
      have c5 : ¬ 6 ≤ i := fun zz9 => c5 ((nI_leI (a := 6) (b := i) (by omega) (by omega)).mpr zz9)
      refine r_iload_1 d_X3_becomeAfter_8 ?_
      refine r_sw3 (a0 := 0) (a1 := 1) (a2 := 2) d_X3_becomeAfter_9 rfl rfl rfl (fun c9 => ?_) (fun c9 => ?_) (fun c9 => ?_) (fun c9a c9b c9c => ?_)
      · -- place 0 at 9
        have c9 : t = 0 := (nI_eq (a := t) (b := 0) (by omega) (by omega)).mp c9
        refine r_aload_0 d_X3_becomeAfter_36 ?_
        refine r_get d_X3_becomeAfter_37 s3_lines ha rfl ?_
        refine r_iload_3 d_X3_becomeAfter_40 ?_
        refine r_aload_2 d_X3_becomeAfter_41 ?_
        refine r_get d_X3_becomeAfter_42 s3_lines (pm_ne ho5 ho) rfl ?_
        refine r_iload_3 d_X3_becomeAfter_45 ?_
        have hgi := hg i (by omega)
        refine r_iald d_X3_becomeAfter_46 (pm_ne hm5 hm) (pm_ixN (by omega) (by omega)) ?_
        rw [hf i (by omega)]
        refine r_S1 d_X3_becomeAfter_47 (c_X3_changed (by omega)) ⟨rfl, rfl⟩ (Nat.le_of_ble_eq_true rfl) ?_
        refine r_iast d_X3_becomeAfter_50 rfl (pm_ixN (by omega) (by omega)) ?_
        refine r_goto d_X3_becomeAfter_51 ?_
        refine r_iinc_3 d_X3_becomeAfter_114 (Nat.le_of_ble_eq_true rfl) (fun w hw => by cases hw <;> rfl) ?_
        rw [nI_1]
        refine r_goto d_X3_becomeAfter_117 ?_
        have ec : ∀ z, z = sp_act t g i → pm_up (pm_up h 5 (at_I 6 (pm_fc (fun j => nI (sp_act t g j)) f i))) 5 (at_I 6 (upd (pm_fc (fun j => nI (sp_act t g j)) f i) i (nI z))) = pm_up h 5 (at_I 6 (pm_fc (fun j => nI (sp_act t g j)) f (i + 1))) := by
          intro z hz
          subst hz
          rw [pm_up_up, ← pm_fc_s]
        rw [ec _ (by unfold sp_act; repeat (first | rw [if_pos (by omega)] | rw [if_neg (by omega)]))]
        exact ih (i + 1) (by omega)
      · -- place 1 at 9
        have c9 : t = 1 := (nI_eq (a := t) (b := 1) (by omega) (by omega)).mp c9
        refine r_aload_0 d_X3_becomeAfter_54 ?_
        refine r_get d_X3_becomeAfter_55 s3_lines ha rfl ?_
        refine r_iload_3 d_X3_becomeAfter_58 ?_
        refine r_aload_2 d_X3_becomeAfter_59 ?_
        refine r_get d_X3_becomeAfter_60 s3_lines (pm_ne ho5 ho) rfl ?_
        refine r_push (v := nI 5) d_X3_becomeAfter_63 ?_
        refine r_iload_3 d_X3_becomeAfter_64 ?_
        refine r_isub d_X3_becomeAfter_65 ?_
        rw [pk_sub (a := 5) (b := i) (by omega)]
        refine r_iald d_X3_becomeAfter_66 (pm_ne hm5 hm) (pm_ixN (by omega) (by omega)) ?_
        rw [hf (5 - i) (by omega)]
        refine r_iast d_X3_becomeAfter_67 rfl (pm_ixN (by omega) (by omega)) ?_
        refine r_goto d_X3_becomeAfter_68 ?_
        refine r_iinc_3 d_X3_becomeAfter_114 (Nat.le_of_ble_eq_true rfl) (fun w hw => by cases hw <;> rfl) ?_
        rw [nI_1]
        refine r_goto d_X3_becomeAfter_117 ?_
        have ec : ∀ z, z = sp_act t g i → pm_up (pm_up h 5 (at_I 6 (pm_fc (fun j => nI (sp_act t g j)) f i))) 5 (at_I 6 (upd (pm_fc (fun j => nI (sp_act t g j)) f i) i (nI z))) = pm_up h 5 (at_I 6 (pm_fc (fun j => nI (sp_act t g j)) f (i + 1))) := by
          intro z hz
          subst hz
          rw [pm_up_up, ← pm_fc_s]
        rw [ec _ (by unfold sp_act; repeat (first | rw [if_pos (by omega)] | rw [if_neg (by omega)]))]
        exact ih (i + 1) (by omega)
      · -- place 2 at 9
        have c9 : t = 2 := (nI_eq (a := t) (b := 2) (by omega) (by omega)).mp c9
        refine r_aload_0 d_X3_becomeAfter_71 ?_
        refine r_get d_X3_becomeAfter_72 s3_lines ha rfl ?_
        refine r_iload_3 d_X3_becomeAfter_75 ?_
        refine r_push (v := nI 15) d_X3_becomeAfter_76 ?_
        refine r_aload_2 d_X3_becomeAfter_78 ?_
        refine r_get d_X3_becomeAfter_79 s3_lines (pm_ne ho5 ho) rfl ?_
        refine r_iload_3 d_X3_becomeAfter_82 ?_
        have hgi := hg i (by omega)
        refine r_iald d_X3_becomeAfter_83 (pm_ne hm5 hm) (pm_ixN (by omega) (by omega)) ?_
        rw [hf i (by omega)]
        refine r_isub d_X3_becomeAfter_84 ?_
        rw [pk_sub (a := 15) (b := (g i)) (by omega)]
        refine r_iast d_X3_becomeAfter_85 rfl (pm_ixN (by omega) (by omega)) ?_
        refine r_goto d_X3_becomeAfter_86 ?_
        refine r_iinc_3 d_X3_becomeAfter_114 (Nat.le_of_ble_eq_true rfl) (fun w hw => by cases hw <;> rfl) ?_
        rw [nI_1]
        refine r_goto d_X3_becomeAfter_117 ?_
        have ec : ∀ z, z = sp_act t g i → pm_up (pm_up h 5 (at_I 6 (pm_fc (fun j => nI (sp_act t g j)) f i))) 5 (at_I 6 (upd (pm_fc (fun j => nI (sp_act t g j)) f i) i (nI z))) = pm_up h 5 (at_I 6 (pm_fc (fun j => nI (sp_act t g j)) f (i + 1))) := by
          intro z hz
          subst hz
          rw [pm_up_up, ← pm_fc_s]
        rw [ec _ (by unfold sp_act; repeat (first | rw [if_pos (by omega)] | rw [if_neg (by omega)]))]
        exact ih (i + 1) (by omega)
      · -- the rest at 9
        have c9a : ¬ t = 0 := fun zz9 => c9a ((nI_eq (a := t) (b := 0) (by omega) (by omega)).mpr zz9)
        have c9b : ¬ t = 1 := fun zz9 => c9b ((nI_eq (a := t) (b := 1) (by omega) (by omega)).mpr zz9)
        have c9c : ¬ t = 2 := fun zz9 => c9c ((nI_eq (a := t) (b := 2) (by omega) (by omega)).mpr zz9)
        refine r_aload_0 d_X3_becomeAfter_89 ?_
        refine r_get d_X3_becomeAfter_90 s3_lines ha rfl ?_
        refine r_iload_3 d_X3_becomeAfter_93 ?_
        refine r_aload_2 d_X3_becomeAfter_94 ?_
        refine r_get d_X3_becomeAfter_95 s3_lines (pm_ne ho5 ho) rfl ?_
        refine r_iload_3 d_X3_becomeAfter_98 ?_
        refine r_push (v := nI 3) d_X3_becomeAfter_99 ?_
        refine r_icmp_ge d_X3_becomeAfter_100 (fun c100 => ?_) (fun c100 => ?_)
        · -- taken at 100
          have c100 : 3 ≤ i := (nI_leI (a := 3) (b := i) (by omega) (by omega)).mp c100
          refine r_iload_3 d_X3_becomeAfter_109 ?_
          refine r_push (v := nI 1) d_X3_becomeAfter_110 ?_
          refine r_isub d_X3_becomeAfter_111 ?_
          rw [pk_sub (a := i) (b := 1) (by omega)]
          refine r_iald d_X3_becomeAfter_112 (pm_ne hm5 hm) (pm_ixN (by omega) (by omega)) ?_
          first | rw [hf (i + 1) (by omega)] | rw [hf (i - 1) (by omega)]
          refine r_iast d_X3_becomeAfter_113 rfl (pm_ixN (by omega) (by omega)) ?_
          refine r_iinc_3 d_X3_becomeAfter_114 (Nat.le_of_ble_eq_true rfl) (fun w hw => by cases hw <;> rfl) ?_
          rw [nI_1]
          refine r_goto d_X3_becomeAfter_117 ?_
          have ec : ∀ z, z = sp_act t g i → pm_up (pm_up h 5 (at_I 6 (pm_fc (fun j => nI (sp_act t g j)) f i))) 5 (at_I 6 (upd (pm_fc (fun j => nI (sp_act t g j)) f i) i (nI z))) = pm_up h 5 (at_I 6 (pm_fc (fun j => nI (sp_act t g j)) f (i + 1))) := by
            intro z hz
            subst hz
            rw [pm_up_up, ← pm_fc_s]
          rw [ec _ (by unfold sp_act; repeat (first | rw [if_pos (by omega)] | rw [if_neg (by omega)]))]
          exact ih (i + 1) (by omega)
        · -- not taken at 100
          have c100 : ¬ 3 ≤ i := fun zz9 => c100 ((nI_leI (a := 3) (b := i) (by omega) (by omega)).mpr zz9)
          refine r_iload_3 d_X3_becomeAfter_103 ?_
          refine r_push (v := nI 1) d_X3_becomeAfter_104 ?_
          refine r_iadd d_X3_becomeAfter_105 ?_
          rw [nI_add]
          refine r_goto d_X3_becomeAfter_106 ?_
          refine r_iald d_X3_becomeAfter_112 (pm_ne hm5 hm) (pm_ixN (by omega) (by omega)) ?_
          first | rw [hf (i + 1) (by omega)] | rw [hf (i - 1) (by omega)]
          refine r_iast d_X3_becomeAfter_113 rfl (pm_ixN (by omega) (by omega)) ?_
          refine r_iinc_3 d_X3_becomeAfter_114 (Nat.le_of_ble_eq_true rfl) (fun w hw => by cases hw <;> rfl) ?_
          rw [nI_1]
          refine r_goto d_X3_becomeAfter_117 ?_
          have ec : ∀ z, z = sp_act t g i → pm_up (pm_up h 5 (at_I 6 (pm_fc (fun j => nI (sp_act t g j)) f i))) 5 (at_I 6 (upd (pm_fc (fun j => nI (sp_act t g j)) f i) i (nI z))) = pm_up h 5 (at_I 6 (pm_fc (fun j => nI (sp_act t g j)) f (i + 1))) := by
            intro z hz
            subst hz
            rw [pm_up_up, ← pm_fc_s]
          rw [ec _ (by unfold sp_act; repeat (first | rw [if_pos (by omega)] | rw [if_neg (by omega)]))]
          exact ih (i + 1) (by omega)
set_option maxRecDepth 10000 in
set_option maxHeartbeats 4000000 in
theorem c_X3_becomeAfter {h : pm_H} {o m t : Nat} {f f2 : Nat → Int32} {g : Nat → Nat} (ha : h.2 4 = some (.inr (3, [.ref 5]))) (ho : h.2 o = some (.inr (3, [.ref m]))) (ho5 : o ≠ 5) (hm : h.2 m = some (at_I 6 f2)) (hm5 : m ≠ 5) (hf : ∀ j, j < 6 → f2 j = nI (g j)) (hg : ∀ j, j < 6 → 6 ≤ g j ∧ g j ≤ 9) (ht : t ≤ 3) (hl : h.2 5 = some (at_I 6 f)) : pm_C0 e_X3_becomeAfter [.ref 4, .int (nI t), .ref o] h (pm_up h 5 (at_I 6 (pm_fc (fun j => nI (sp_act t g j)) f 6))) := by
  have eh : (pm_up h 5 (at_I 6 (pm_fc (fun j => nI (sp_act t g j)) f 0))) = h := by rw [pm_fc_0]; exact pm_up_self hl
  refine pm_enter rfl (Nat.le_of_ble_eq_true rfl) ?_
  show pm_V e_X3_becomeAfter 0 [some (.ref 4), some (.int (nI t)), some (.ref o), none] [] h (0, 0) _
  refine r_push (v := nI 0) d_X3_becomeAfter_0 ?_
  refine r_istore_3 d_X3_becomeAfter_1 (Nat.le_of_ble_eq_true rfl) (fun w hw => by cases hw <;> rfl) ?_
  have K := lp_X3_becomeAfter (f := f) (b := (0, 0)) (F := fun v9 h1 => v9 = none ∧ h1 = (pm_up h 5 (at_I 6 (pm_fc (fun j => nI (sp_act t g j)) f 6)))) ha ho ho5 hm hm5 hf hg ht (r_return d_X3_becomeAfter_120 rfl ⟨rfl, rfl⟩) 6 0 (by omega)
  rw [eh] at K
  exact K
/-- a caster of kind kd at a -/
def pm_cs (h : pm_H) (a kd n k f lo hi : Nat) : Prop := (kd = 0 ∧ h.2 a = some (.inr (1, []))) ∨ (kd = 2 ∧ h.2 a = some (.inr (2, []))) ∨ (kd = 1 ∧ lo = 1 ∧ hi = 59 ∧ pm_ok n k f lo hi ∧ h.2 a = some (.inr (6, [.int (nI n), .int (nI k), .int (nI f)]))) ∨ (kd = 3 ∧ pm_ok n k f lo hi ∧ h.2 a = some (.inr (7, [.int (nI n), .int (nI k), .int (nI f), .int (nI lo), .int (nI hi)])))
theorem pm_cs_up {h : pm_H} {a kd n k f lo hi q : Nat} {c : pm_C} (hs : pm_cs h a kd n k f lo hi) (hne : a ≠ q) : pm_cs (pm_up h q c) a kd n k f lo hi := by
  rcases hs with ⟨e, z⟩ | ⟨e, z⟩ | ⟨e, e1, e2, e3, z⟩ | ⟨e, e1, z⟩
  · exact Or.inl ⟨e, pm_ne hne z⟩
  · exact Or.inr (Or.inl ⟨e, pm_ne hne z⟩)
  · exact Or.inr (Or.inr (Or.inl ⟨e, e1, e2, e3, pm_ne hne z⟩))
  · exact Or.inr (Or.inr (Or.inr ⟨e, e1, pm_ne hne z⟩))
/-- the number S before the i-th line, and that line -/
def sp_sd (kd n k f lo hi : Nat) (s : Int64) : Nat → Int64
  | 0 => s
  | i + 1 => (sp_draw kd n k f lo hi (sp_sd kd n k f lo hi s i)).2
def sp_ln (kd n k f lo hi : Nat) (s : Int64) (i : Nat) : Nat := (sp_draw kd n k f lo hi (sp_sd kd n k f lo hi s i)).1
theorem sp_sd_s (kd n k f lo hi : Nat) (s : Int64) (i : Nat) : sp_sd kd n k f lo hi s (i + 1) = (sp_draw kd n k f lo hi (sp_sd kd n k f lo hi s i)).2 := by rw [sp_sd]
theorem sp_draw_0 (n k f lo hi : Nat) (s : Int64) : sp_draw 0 n k f lo hi s = (7, s) := by unfold sp_draw; rw [if_pos rfl]
theorem sp_draw_2 (n k f lo hi : Nat) (s : Int64) : sp_draw 2 n k f lo hi s = (sp_coin (sp_un (sp_seed s) 8), sp_seed s) := by unfold sp_draw; rw [if_neg (by decide), if_pos rfl]
theorem sp_draw_1 {kd : Nat} (h : kd = 1 ∨ kd = 3) (n k f lo hi : Nat) (s : Int64) : sp_draw kd n k f lo hi s = ((sp_cl k f lo hi 3 n s).1 / k, (sp_cl k f lo hi 3 n s).2) := by unfold sp_draw; rw [if_neg (by omega), if_neg (by omega)]
theorem sp_coin_le (u : Nat) : 6 ≤ sp_coin u ∧ sp_coin u ≤ 9 := by unfold sp_coin; split <;> (try split) <;> (try split) <;> omega
theorem sp_draw_le {kd n k f lo hi : Nat} (hk : kd = 0 ∨ kd = 2 ∨ pm_ok n k f lo hi) (s : Int64) : (sp_draw kd n k f lo hi s).1 ≤ 30 := by
  unfold sp_draw
  split
  · exact (by decide : (7 : Nat) ≤ 30)
  · split
    · have := sp_coin_le (sp_un (sp_seed s) 8)
      show sp_coin _ ≤ 30
      omega
    · rcases hk with z | z | z
      · omega
      · omega
      · obtain ⟨g1, g2, g3, g4, g5, g6, g7, g8⟩ := z
        have := sp_cl_le (k := k) (f := f) (lo := lo) (hi := hi) (by omega) g6 g7 g8 3 n s g2
        show (sp_cl k f lo hi 3 n s).1 / k ≤ 30
        have h2 : (sp_cl k f lo hi 3 n s).1 / k ≤ 60 / 2 := Nat.le_trans (Nat.div_le_div_right this) (Nat.div_le_div_left g3 (by decide))
        exact h2
theorem pm_cs_k {h : pm_H} {a kd n k f lo hi : Nat} (hs : pm_cs h a kd n k f lo hi) : kd = 0 ∨ kd = 2 ∨ pm_ok n k f lo hi := by
  rcases hs with ⟨e, z⟩ | ⟨e, z⟩ | ⟨e, e1, e2, e3, z⟩ | ⟨e, e1, z⟩
  · exact Or.inl e
  · exact Or.inr (Or.inl e)
  · exact Or.inr (Or.inr e3)
  · exact Or.inr (Or.inr e1)
def sp_fit (ln : Nat → Nat) : Nat → Nat
  | 0 => 1
  | i + 1 => if 6 ≤ ln i ∧ ln i ≤ 9 then sp_fit ln i else 0
theorem sp_fit_le (ln : Nat → Nat) : ∀ i, sp_fit ln i ≤ 1
  | 0 => Nat.le_refl _
  | i + 1 => by
    simp only [sp_fit]
    split
    · exact sp_fit_le ln i
    · exact Nat.zero_le _
theorem pm_and1 : ∀ x, x ≤ 1 → nI x &&& nI 1 = nI x := by decide
theorem pm_and0 : ∀ x, x ≤ 1 → nI x &&& nI 0 = nI 0 := by decide
set_option maxRecDepth 10000 in
set_option maxHeartbeats 4000000 in
theorem lp_X3_castBy {h : pm_H} {a kd n k f lo hi : Nat} {s : Int64} {g : Nat → Int32} (ha : h.2 4 = some (.inr (3, [.ref 5]))) (hcs : pm_cs h a kd n k f lo hi) (h5 : a ≠ 5) (h12 : a ≠ 12) {F : Option Value → pm_H → Prop} {b : Nat × Nat} (K : pm_V e_X3_castBy 62 [some (.ref 4), some (.ref a), some (.ref 12), some (.int (nI (sp_fit (sp_ln kd n k f lo hi s) 6))), some (.int (nI 6))] [] (pm_up (pm_up h 12 (at_seed (sp_sd kd n k f lo hi s 6))) 5 (at_I 6 (pm_fc (fun j => nI ((sp_ln kd n k f lo hi s) j)) g 6))) b F) : ∀ (d i : Nat), i + d = 6 → pm_V e_X3_castBy 5 [some (.ref 4), some (.ref a), some (.ref 12), some (.int (nI (sp_fit (sp_ln kd n k f lo hi s) i))), some (.int (nI i))] [] (pm_up (pm_up h 12 (at_seed (sp_sd kd n k f lo hi s i))) 5 (at_I 6 (pm_fc (fun j => nI ((sp_ln kd n k f lo hi s) j)) g i))) b F := by
  intro d
  induction d with
  | zero =>
    intro i hid
    obtain rfl : i = 6 := by omega
    refine r_iload_4 d_X3_castBy_5 ?_
    refine r_push (v := nI 6) d_X3_castBy_7 ?_
    refine r_icmp_ge d_X3_castBy_9 (fun c9 => ?_) (fun c9 => absurd (by decide) c9)
    clear c9
    exact K
  | succ d ih =>
    intro i hid
    have hle := sp_draw_le (pm_cs_k hcs) (sp_sd kd n k f lo hi s i)
    have hfl := sp_fit_le (sp_ln kd n k f lo hi s) i
    have esd : sp_sd kd n k f lo hi s (i + 1) = (sp_draw kd n k f lo hi (sp_sd kd n k f lo hi s i)).2 := sp_sd_s kd n k f lo hi s i
    have eln : sp_ln kd n k f lo hi s i = (sp_draw kd n k f lo hi (sp_sd kd n k f lo hi s i)).1 := rfl
    rw [← eln] at hle
    have tail : pm_V e_X3_castBy 24 [some (.ref 4), some (.ref a), some (.ref 12), some (.int (nI (sp_fit (sp_ln kd n k f lo hi s) i))), some (.int (nI i))] [] (pm_up (pm_up h 12 (at_seed (sp_sd kd n k f lo hi s (i + 1)))) 5 (at_I 6 (pm_fc (fun j => nI ((sp_ln kd n k f lo hi s) j)) g (i + 1)))) b F := by
      refine r_iload_3 d_X3_castBy_24 ?_
      refine r_aload_0 d_X3_castBy_25 ?_
      refine r_get d_X3_castBy_26 s3_lines ha rfl ?_
      refine r_iload_4 d_X3_castBy_29 ?_
      refine r_iald d_X3_castBy_31 rfl (pm_ixN (by omega) (by omega)) ?_
      rw [pm_fc_in (by omega)]
      refine r_push (v := nI 6) d_X3_castBy_32 ?_
      refine r_icmp_lt d_X3_castBy_34 (fun c34 => ?_) (fun c34 => ?_)
      · -- taken at 34
        have c34 : (sp_ln kd n k f lo hi s i) < 6 := (nI_ltI (a := (sp_ln kd n k f lo hi s i)) (b := 6) (by omega) (by omega)).mp c34
        refine r_push (v := nI 0) d_X3_castBy_53 ?_
        refine r_iand d_X3_castBy_54 ?_
        refine r_istore_3 d_X3_castBy_55 (Nat.le_of_ble_eq_true rfl) (fun w hw => by cases hw <;> rfl) ?_
        refine r_iinc_4 d_X3_castBy_56 (Nat.le_of_ble_eq_true rfl) (fun w hw => by cases hw <;> rfl) ?_
        rw [nI_1]
        refine r_goto d_X3_castBy_59 ?_
        first
        | (rw [pm_and1 _ hfl, show sp_fit (sp_ln kd n k f lo hi s) i = sp_fit (sp_ln kd n k f lo hi s) (i + 1) from (by simp only [sp_fit]; rw [if_pos ⟨by omega, by omega⟩])]; exact ih (i + 1) (by omega))
        | (rw [pm_and0 _ hfl, show (0 : Nat) = sp_fit (sp_ln kd n k f lo hi s) (i + 1) from (by simp only [sp_fit]; rw [if_neg (by omega)])]; exact ih (i + 1) (by omega))
      · -- not taken at 34
        have c34 : ¬ (sp_ln kd n k f lo hi s i) < 6 := fun zz9 => c34 ((nI_ltI (a := (sp_ln kd n k f lo hi s i)) (b := 6) (by omega) (by omega)).mpr zz9)
        refine r_aload_0 d_X3_castBy_37 ?_
        refine r_get d_X3_castBy_38 s3_lines ha rfl ?_
        refine r_iload_4 d_X3_castBy_41 ?_
        refine r_iald d_X3_castBy_43 rfl (pm_ixN (by omega) (by omega)) ?_
        rw [pm_fc_in (by omega)]
        refine r_push (v := nI 9) d_X3_castBy_44 ?_
        refine r_icmp_gt d_X3_castBy_46 (fun c46 => ?_) (fun c46 => ?_)
        · -- taken at 46
          have c46 : 9 < (sp_ln kd n k f lo hi s i) := (nI_ltI (a := 9) (b := (sp_ln kd n k f lo hi s i)) (by omega) (by omega)).mp c46
          refine r_push (v := nI 0) d_X3_castBy_53 ?_
          refine r_iand d_X3_castBy_54 ?_
          refine r_istore_3 d_X3_castBy_55 (Nat.le_of_ble_eq_true rfl) (fun w hw => by cases hw <;> rfl) ?_
          refine r_iinc_4 d_X3_castBy_56 (Nat.le_of_ble_eq_true rfl) (fun w hw => by cases hw <;> rfl) ?_
          rw [nI_1]
          refine r_goto d_X3_castBy_59 ?_
          first
          | (rw [pm_and1 _ hfl, show sp_fit (sp_ln kd n k f lo hi s) i = sp_fit (sp_ln kd n k f lo hi s) (i + 1) from (by simp only [sp_fit]; rw [if_pos ⟨by omega, by omega⟩])]; exact ih (i + 1) (by omega))
          | (rw [pm_and0 _ hfl, show (0 : Nat) = sp_fit (sp_ln kd n k f lo hi s) (i + 1) from (by simp only [sp_fit]; rw [if_neg (by omega)])]; exact ih (i + 1) (by omega))
        · -- not taken at 46
          have c46 : ¬ 9 < (sp_ln kd n k f lo hi s i) := fun zz9 => c46 ((nI_ltI (a := 9) (b := (sp_ln kd n k f lo hi s i)) (by omega) (by omega)).mpr zz9)
          refine r_push (v := nI 1) d_X3_castBy_49 ?_
          refine r_goto d_X3_castBy_50 ?_
          refine r_iand d_X3_castBy_54 ?_
          refine r_istore_3 d_X3_castBy_55 (Nat.le_of_ble_eq_true rfl) (fun w hw => by cases hw <;> rfl) ?_
          refine r_iinc_4 d_X3_castBy_56 (Nat.le_of_ble_eq_true rfl) (fun w hw => by cases hw <;> rfl) ?_
          rw [nI_1]
          refine r_goto d_X3_castBy_59 ?_
          first
          | (rw [pm_and1 _ hfl, show sp_fit (sp_ln kd n k f lo hi s) i = sp_fit (sp_ln kd n k f lo hi s) (i + 1) from (by simp only [sp_fit]; rw [if_pos ⟨by omega, by omega⟩])]; exact ih (i + 1) (by omega))
          | (rw [pm_and0 _ hfl, show (0 : Nat) = sp_fit (sp_ln kd n k f lo hi s) (i + 1) from (by simp only [sp_fit]; rw [if_neg (by omega)])]; exact ih (i + 1) (by omega))
    have hq := hcs
    have hq2 := pm_cs_up (c := at_seed (sp_sd kd n k f lo hi s i)) hcs h12
    rcases hq with ⟨e, z⟩ | ⟨e, z⟩ | ⟨e, e1, e2, e3, z⟩ | ⟨e, e1, z⟩
    ·
      refine r_iload_4 d_X3_castBy_5 ?_
      refine r_push (v := nI 6) d_X3_castBy_7 ?_
      refine r_icmp_ge d_X3_castBy_9 (fun c9 => ?_) (fun c9 => ?_)
      · -- taken at 9
        have c9 : 6 ≤ i := (nI_leI (a := 6) (b := i) (by omega) (by omega)).mp c9
        exfalso; omega
      · -- not taken at 9
        have c9 : ¬ 6 ≤ i := fun zz9 => c9 ((nI_leI (a := 6) (b := i) (by omega) (by omega)).mpr zz9)
        refine r_aload_0 d_X3_castBy_12 ?_
        refine r_get d_X3_castBy_13 s3_lines ha rfl ?_
        refine r_iload_4 d_X3_castBy_16 ?_
        refine r_aload_1 d_X3_castBy_18 ?_
        refine r_aload_2 d_X3_castBy_19 ?_
        refine r_V1 d_X3_castBy_20_1 c_X1_castLine (pm_ne h5 (pm_ne h12 z)) rfl rfl ⟨rfl, rfl⟩ (Nat.le_of_ble_eq_true rfl) ?_
        refine r_iast d_X3_castBy_23 rfl (pm_ixN (by omega) (by omega)) ?_
        subst e
        have ez : (7 : Nat) = sp_ln 0 n k f lo hi s i := by rw [eln, sp_draw_0]
        rw [ez, pm_up_up, show nI (sp_ln 0 n k f lo hi s i) = (fun j => nI (sp_ln 0 n k f lo hi s j)) i from rfl, pm_fc_s]
        have e9 : sp_sd 0 n k f lo hi s (i + 1) = sp_sd 0 n k f lo hi s i := by rw [esd, sp_draw_0]
        rw [e9] at tail
        exact tail
    ·
      refine r_iload_4 d_X3_castBy_5 ?_
      refine r_push (v := nI 6) d_X3_castBy_7 ?_
      refine r_icmp_ge d_X3_castBy_9 (fun c9 => ?_) (fun c9 => ?_)
      · -- taken at 9
        have c9 : 6 ≤ i := (nI_leI (a := 6) (b := i) (by omega) (by omega)).mp c9
        exfalso; omega
      · -- not taken at 9
        have c9 : ¬ 6 ≤ i := fun zz9 => c9 ((nI_leI (a := 6) (b := i) (by omega) (by omega)).mpr zz9)
        refine r_aload_0 d_X3_castBy_12 ?_
        refine r_get d_X3_castBy_13 s3_lines ha rfl ?_
        refine r_iload_4 d_X3_castBy_16 ?_
        refine r_aload_1 d_X3_castBy_18 ?_
        refine r_aload_2 d_X3_castBy_19 ?_
        refine r_V1 d_X3_castBy_20_2 (c_X2_castLine rfl) (pm_ne h5 (pm_ne h12 z)) rfl rfl ⟨rfl, rfl⟩ (Nat.le_of_ble_eq_true rfl) ?_
        refine r_iast d_X3_castBy_23 rfl (pm_ixN (by omega) (by omega)) ?_
        subst e
        have ez : sp_coin (sp_un (sp_seed (sp_sd 2 n k f lo hi s i)) 8) = sp_ln 2 n k f lo hi s i := by rw [eln, sp_draw_2]
        have e9 : sp_seed (sp_sd 2 n k f lo hi s i) = sp_sd 2 n k f lo hi s (i + 1) := by rw [esd, sp_draw_2]
        rw [ez, e9, pm_up_comm (a := 5) (b := 12) (by decide), pm_up_up, pm_up_up, show nI (sp_ln 2 n k f lo hi s i) = (fun j => nI (sp_ln 2 n k f lo hi s j)) i from rfl, pm_fc_s]
        exact tail
    ·
      refine r_iload_4 d_X3_castBy_5 ?_
      refine r_push (v := nI 6) d_X3_castBy_7 ?_
      refine r_icmp_ge d_X3_castBy_9 (fun c9 => ?_) (fun c9 => ?_)
      · -- taken at 9
        have c9 : 6 ≤ i := (nI_leI (a := 6) (b := i) (by omega) (by omega)).mp c9
        exfalso; omega
      · -- not taken at 9
        have c9 : ¬ 6 ≤ i := fun zz9 => c9 ((nI_leI (a := 6) (b := i) (by omega) (by omega)).mpr zz9)
        refine r_aload_0 d_X3_castBy_12 ?_
        refine r_get d_X3_castBy_13 s3_lines ha rfl ?_
        refine r_iload_4 d_X3_castBy_16 ?_
        refine r_aload_1 d_X3_castBy_18 ?_
        refine r_aload_2 d_X3_castBy_19 ?_
        refine r_V1 d_X3_castBy_20_6 (c_X6_castLine (pm_sk_up (pm_sk_up (Or.inl ⟨z, e1, e2⟩) h12) h5) e3 h12 rfl) (pm_ne h5 (pm_ne h12 z)) rfl rfl ⟨rfl, rfl⟩ (Nat.le_of_ble_eq_true rfl) ?_
        refine r_iast d_X3_castBy_23 rfl (pm_ixN (by omega) (by omega)) ?_
        subst e
        have ez : (sp_cl k f lo hi 3 n (sp_sd 1 n k f lo hi s i)).1 / k = sp_ln 1 n k f lo hi s i := by rw [eln, sp_draw_1 (by decide)]
        have e9 : (sp_cl k f lo hi 3 n (sp_sd 1 n k f lo hi s i)).2 = sp_sd 1 n k f lo hi s (i + 1) := by rw [esd, sp_draw_1 (by decide)]
        rw [ez, e9, pm_up_comm (a := 5) (b := 12) (by decide), pm_up_up, pm_up_up, show nI (sp_ln 1 n k f lo hi s i) = (fun j => nI (sp_ln 1 n k f lo hi s j)) i from rfl, pm_fc_s]
        exact tail
    ·
      refine r_iload_4 d_X3_castBy_5 ?_
      refine r_push (v := nI 6) d_X3_castBy_7 ?_
      refine r_icmp_ge d_X3_castBy_9 (fun c9 => ?_) (fun c9 => ?_)
      · -- taken at 9
        have c9 : 6 ≤ i := (nI_leI (a := 6) (b := i) (by omega) (by omega)).mp c9
        exfalso; omega
      · -- not taken at 9
        have c9 : ¬ 6 ≤ i := fun zz9 => c9 ((nI_leI (a := 6) (b := i) (by omega) (by omega)).mpr zz9)
        refine r_aload_0 d_X3_castBy_12 ?_
        refine r_get d_X3_castBy_13 s3_lines ha rfl ?_
        refine r_iload_4 d_X3_castBy_16 ?_
        refine r_aload_1 d_X3_castBy_18 ?_
        refine r_aload_2 d_X3_castBy_19 ?_
        refine r_V1 d_X3_castBy_20_7 (c_X6_castLine (pm_sk_up (pm_sk_up (Or.inr z) h12) h5) e1 h12 rfl) (pm_ne h5 (pm_ne h12 z)) rfl rfl ⟨rfl, rfl⟩ (Nat.le_of_ble_eq_true rfl) ?_
        refine r_iast d_X3_castBy_23 rfl (pm_ixN (by omega) (by omega)) ?_
        subst e
        have ez : (sp_cl k f lo hi 3 n (sp_sd 3 n k f lo hi s i)).1 / k = sp_ln 3 n k f lo hi s i := by rw [eln, sp_draw_1 (by decide)]
        have e9 : (sp_cl k f lo hi 3 n (sp_sd 3 n k f lo hi s i)).2 = sp_sd 3 n k f lo hi s (i + 1) := by rw [esd, sp_draw_1 (by decide)]
        rw [ez, e9, pm_up_comm (a := 5) (b := 12) (by decide), pm_up_up, pm_up_up, show nI (sp_ln 3 n k f lo hi s i) = (fun j => nI (sp_ln 3 n k f lo hi s j)) i from rfl, pm_fc_s]
        exact tail
set_option maxRecDepth 10000 in
set_option maxHeartbeats 4000000 in
theorem c_X3_castBy {h : pm_H} {a kd n k f lo hi : Nat} {s : Int64} {g : Nat → Int32} (ha : h.2 4 = some (.inr (3, [.ref 5]))) (hcs : pm_cs h a kd n k f lo hi) (h5 : a ≠ 5) (h12 : a ≠ 12) (hl : h.2 5 = some (at_I 6 g)) (hsd : h.2 12 = some (at_seed s)) : pm_Cv e_X3_castBy [.ref 4, .ref a, .ref 12] h (.int (nI (sp_fit (sp_ln kd n k f lo hi s) 6))) (pm_up (pm_up h 12 (at_seed (sp_sd kd n k f lo hi s 6))) 5 (at_I 6 (pm_fc (fun j => nI ((sp_ln kd n k f lo hi s) j)) g 6))) := by
  have eh : (pm_up (pm_up h 12 (at_seed (sp_sd kd n k f lo hi s 0))) 5 (at_I 6 (pm_fc (fun j => nI ((sp_ln kd n k f lo hi s) j)) g 0))) = h := by rw [pm_fc_0, show sp_sd kd n k f lo hi s 0 = s by rw [sp_sd], pm_up_self hsd]; exact pm_up_self hl
  have hfl := sp_fit_le (sp_ln kd n k f lo hi s) 6
  refine pm_enter rfl (Nat.le_of_ble_eq_true rfl) ?_
  show pm_V e_X3_castBy 0 [some (.ref 4), some (.ref a), some (.ref 12), none, none] [] h (0, 0) _
  refine r_push (v := nI 1) d_X3_castBy_0 ?_
  refine r_istore_3 d_X3_castBy_1 (Nat.le_of_ble_eq_true rfl) (fun w hw => by cases hw <;> rfl) ?_
  refine r_push (v := nI 0) d_X3_castBy_2 ?_
  refine r_istore_4 d_X3_castBy_3 (Nat.le_of_ble_eq_true rfl) (fun w hw => by cases hw <;> rfl) ?_
  have K := lp_X3_castBy (g := g) (s := s) (b := (0, 0)) (F := fun v9 h1 => v9 = some (.int (nI (sp_fit (sp_ln kd n k f lo hi s) 6))) ∧ h1 = (pm_up (pm_up h 12 (at_seed (sp_sd kd n k f lo hi s 6))) 5 (at_I 6 (pm_fc (fun j => nI ((sp_ln kd n k f lo hi s) j)) g 6)))) ha hcs h5 h12 (r_iload_3 d_X3_castBy_62 (r_ireturn d_X3_castBy_63 ⟨_, rfl, by show Value.int _ = _; exact congrArg Value.int (by revert hfl; generalize sp_fit _ 6 = z9; revert z9; decide)⟩ ⟨rfl, rfl⟩)) 6 0 (by omega)
  rw [eh] at K
  exact K
