/-! calls on casters: one description for both sides. Answers: .inl x is x, .inr w is the finding w -/
abbrev sp_Cs : Type := Nat × Nat × Nat × Nat × Nat × Nat
def sp_ans (r : Int32 ⊕ Nat) : Int32 := match r with
  | .inl x => x
  | .inr _ => -3
def m_meet (h : pm_H) (mi : Nat → Int32) (ml : Nat → Int64) (A : Nat → Nat → Int32) (B : Nat → Nat → Int64) (w : Nat) : pm_H := pmM h (upd mi 0 (nI w)) ml (va_up A 45 (upd (A 45) w (A 45 w + 1))) B
def m_fin (h : pm_H) (mi : Nat → Int32) (ml : Nat → Int64) (A : Nat → Nat → Int32) (B : Nat → Nat → Int64) (r : Int32 ⊕ Nat) : pm_H := match r with
  | .inl _ => pmM h mi ml A B
  | .inr w => m_meet h mi ml A B w
def m_Cs (A : Nat → Nat → Int32) (c : Nat) (q : sp_Cs) : Prop := m_cas A c q.1 q.2.1 q.2.2.1 q.2.2.2.1 q.2.2.2.2.1 q.2.2.2.2.2
def m_CC (mi : Nat → Int32) (A : Nat → Nat → Int32) (cn : Nat) (C : Nat → sp_Cs) : Prop := mi 1 = nI cn ∧ cn ≤ 10 ∧ ∀ j, j < cn → m_Cs A j (C j)
def sp_tell (q : sp_Cs) (w : Int32) : Int32 := if w = 0 then nI q.1 else if sp_pk q.1 then (if w = 1 then nI q.2.1 else if w = 2 then nI q.2.2.1 else nI q.2.2.2.1) else -9
def sp_told (o : Option sp_Cs) (w : Int32) : Int32 ⊕ Nat := match o with
  | none => .inl (-1)
  | some q => if sp_in w 0 3 then .inl (sp_tell q w) else .inl (-1)
def sp_mark (o : Option sp_Cs) (w : Int32) : Int32 ⊕ Nat := match o with
  | none => .inl (-1)
  | some q => if sp_in w 1 3 then (if nI q.1 = w ∨ (w = 1 ∧ q.1 = 3) then .inl (if w = 1 then nI (sp_left q.2.2.1 q.2.2.2.1 q.2.1 1) else if w = 2 then 4 else nI (sp_places q.2.2.2.2.1 q.2.2.2.2.2 q.2.1)) else .inr 3) else .inl (-1)
def sp_part (o : Option sp_Cs) (n a : Int32) : Int32 ⊕ Nat := match o with
  | none => .inl (-1)
  | some q => if sp_in n 0 60 then (if sp_pk q.1 then (if n < 2 then .inl n else if sp_in a 1 (n - 1) then .inl (nI (sp_left q.2.2.1 q.2.2.2.1 n.toNatClampNeg a.toNatClampNeg)) else .inr 2) else .inr 3) else .inl (-1)
theorem sp_in_nat {v : Int32} {lo hi : Nat} (hlo : lo < 2 ^ 31) (hhi : hi < 2 ^ 31) (h : sp_in v (nI lo) (nI hi) = true) : ∃ y, lo ≤ y ∧ y ≤ hi ∧ v = nI y := by
  have h1 := of_decide_eq_true h
  have h2 : ¬ v < 0 := by
    intro z
    have h3 : (nI lo).toInt = (lo : Int) := nI_toInt hlo
    have h4 := h1.1
    rw [Int32.le_iff_toInt_le, h3] at h4
    rw [Int32.lt_iff_toInt_lt] at z
    have : (0 : Int32).toInt = 0 := rfl
    omega
  obtain ⟨y, hy, e⟩ := nI_of h2
  rw [e] at h1
  exact ⟨y, (nI_leI hlo hy).mp h1.1, (nI_leI hy hhi).mp h1.2, e⟩
theorem sp_in_of {y lo hi : Nat} (hy : y < 2 ^ 31) (hhi : hi < 2 ^ 31) (h1 : lo ≤ y) (h2 : y ≤ hi) : sp_in (nI y) (nI lo) (nI hi) = true := decide_eq_true ⟨(nI_leI (by omega) hy).mpr h1, (nI_leI hy hhi).mpr h2⟩
set_option maxRecDepth 10000 in
set_option maxHeartbeats 4000000 in
theorem c_X10_tells {h : pm_H} {mi : Nat → Int32} {ml : Nat → Int64} {A : Nat → Nat → Int32} {B : Nat → Nat → Int64} {c : Nat} {q : sp_Cs} {w : Int32} (hc : c < 10) (hs : m_Cs A c q) : pm_Cv e_X10_tells [.ref 44, .int (nI c), .int w] (pmM h mi ml A B) (.int (sp_tell q w)) (pmM h mi ml A B) := by
  obtain ⟨kd, n, k, f, lo, hi⟩ := q
  obtain ⟨hk, hq⟩ := hs
  have hk : A 46 c = nI kd := hk
  have hkd : kd ≤ 3 := by rcases hq with ⟨h1, -⟩ | ⟨h1, -⟩ <;> dsimp only at h1 <;> omega
  have hb := pm_bl_le (sp_pk kd)
  show pm_Cv _ _ _ (.int (if w = 0 then nI kd else if sp_pk kd then (if w = 1 then nI n else if w = 2 then nI k else nI f) else -9)) _
  have h47 : A 47 c = if sp_pk kd then nI n else -9 := by
    rcases hq with ⟨h1, h2, -⟩ | ⟨h1, -, -, h2, -⟩
    · dsimp only at h1; rw [h2, if_neg (by rcases h1 with z | z <;> rw [z] <;> decide)]
    · dsimp only at h1; rw [h2, if_pos (by rcases h1 with z | z <;> rw [z] <;> decide)]
  have h48 : A 48 c = if sp_pk kd then nI k else -9 := by
    rcases hq with ⟨h1, -, h2⟩ | ⟨h1, -, -, -, h2, -⟩
    · dsimp only at h1; rw [h2, if_neg (by rcases h1 with z | z <;> rw [z] <;> decide)]
    · dsimp only at h1; rw [h2.2.2.2.2.2.2.1, if_pos (by rcases h1 with z | z <;> rw [z] <;> decide)]
  have h49 : sp_pk kd = true → A 49 c = nI f ∧ f ≤ 1 := by
    intro hp
    rcases hq with ⟨h1, -⟩ | ⟨-, -, -, -, h2, -⟩
    · dsimp only at h1; rcases h1 with z | z <;> rw [z] at hp <;> exact absurd hp (by decide)
    · exact ⟨h2.2.2.2.2.2.2.2.1, h2.2.2.1⟩
  refine pm_enter rfl (Nat.le_of_ble_eq_true rfl) ?_
  show pm_V e_X10_tells 0 [some (.ref 44), some (.int (nI c)), some (.int w)] [] (pmM h mi ml A B) (0, 0) _
  refine r_iload_2 d_X10_tells_0 ?_
  refine r_if_ne d_X10_tells_1 (fun c1 => ?_) (fun c1 => ?_)
  · -- taken at 1
    rw [if_neg c1]
    refine r_iload_2 d_X10_tells_13 ?_
    refine r_push d_X10_tells_14 ?_
    refine r_icmp_ne d_X10_tells_15 (fun c15 => ?_) (fun c15 => ?_)
    · -- taken at 15
      refine r_iload_2 d_X10_tells_27 ?_
      refine r_push d_X10_tells_28 ?_
      refine r_icmp_ne d_X10_tells_29 (fun c29 => ?_) (fun c29 => ?_)
      · -- taken at 29
        rw [if_neg c15, if_neg c29]
        refine r_aload_0 d_X10_tells_41 ?_
        refine r_iload_1 d_X10_tells_42 ?_
        refine r_V1 d_X10_tells_43 (c_X10_parts hc hk hkd) rfl rfl rfl ⟨rfl, rfl⟩ (Nat.le_of_ble_eq_true rfl) ?_
        refine r_if_ne d_X10_tells_46 (fun c46 => ?_) (fun c46 => ?_)
        · -- taken at 46
          have c46 : ¬ (pm_bl (sp_pk kd)) = 0 := fun zz9 => c46 ((nI_eq (a := (pm_bl (sp_pk kd))) (b := 0) (by omega) (by omega)).mpr zz9)
          rw [if_pos (pm_bl1 c46)]
          obtain ⟨hf49, hf1⟩ := h49 (pm_bl1 c46)
          refine r_aload_0 d_X10_tells_54 ?_
          refine r_get d_X10_tells_55 s10_hasFinger rfl rfl ?_
          refine r_iload_1 d_X10_tells_58 ?_
          refine r_zald d_X10_tells_59 rfl (pm_ixN hc (by decide)) ?_
          rw [hf49]
          refine r_if_eq d_X10_tells_60 (fun c60 => ?_) (fun c60 => ?_)
          · -- taken at 60
            have c60 : f = 0 := (nI_eq (a := f) (b := 0) (by omega) (by omega)).mp c60
            rw [show f = 0 by omega]
            refine r_push d_X10_tells_67 ?_
            refine r_ireturn d_X10_tells_68 ⟨_, rfl, rfl⟩ ?_
            exact ⟨rfl, rfl⟩
          · -- not taken at 60
            have c60 : ¬ f = 0 := fun zz9 => c60 ((nI_eq (a := f) (b := 0) (by omega) (by omega)).mpr zz9)
            rw [show f = 1 by omega]
            refine r_push d_X10_tells_63 ?_
            refine r_goto d_X10_tells_64 ?_
            refine r_ireturn d_X10_tells_68 ⟨_, rfl, rfl⟩ ?_
            exact ⟨rfl, rfl⟩
        · -- not taken at 46
          have c46 : (pm_bl (sp_pk kd)) = 0 := (nI_eq (a := (pm_bl (sp_pk kd))) (b := 0) (by omega) (by omega)).mp c46
          rw [if_neg (by rw [pm_bl0.mp c46]; decide)]
          refine r_push d_X10_tells_49 ?_
          refine r_goto d_X10_tells_51 ?_
          refine r_ireturn d_X10_tells_68 ⟨_, rfl, rfl⟩ ?_
          exact ⟨rfl, rfl⟩
      · -- not taken at 29
        rw [if_neg c15, if_pos c29]
        refine r_aload_0 d_X10_tells_32 ?_
        refine r_get d_X10_tells_33 s10_counts rfl rfl ?_
        refine r_iload_1 d_X10_tells_36 ?_
        refine r_iald d_X10_tells_37 rfl (pm_ixN hc (by decide)) ?_
        rw [h48]
        refine r_goto d_X10_tells_38 ?_
        refine r_ireturn d_X10_tells_68 ⟨_, rfl, rfl⟩ ?_
        exact ⟨rfl, rfl⟩
    · -- not taken at 15
      rw [if_pos c15]
      refine r_aload_0 d_X10_tells_18 ?_
      refine r_get d_X10_tells_19 s10_sticks rfl rfl ?_
      refine r_iload_1 d_X10_tells_22 ?_
      refine r_iald d_X10_tells_23 rfl (pm_ixN hc (by decide)) ?_
      rw [h47]
      refine r_goto d_X10_tells_24 ?_
      refine r_ireturn d_X10_tells_68 ⟨_, rfl, rfl⟩ ?_
      exact ⟨rfl, rfl⟩
  · -- not taken at 1
    rw [if_pos c1]
    refine r_aload_0 d_X10_tells_4 ?_
    refine r_get d_X10_tells_5 s10_kinds rfl rfl ?_
    refine r_iload_1 d_X10_tells_8 ?_
    refine r_iald d_X10_tells_9 rfl (pm_ixN hc (by decide)) ?_
    rw [hk]
    refine r_goto d_X10_tells_10 ?_
    refine r_ireturn d_X10_tells_68 ⟨_, rfl, rfl⟩ ?_
    exact ⟨rfl, rfl⟩
set_option maxRecDepth 10000 in
set_option maxHeartbeats 4000000 in
theorem c_X10_told {h : pm_H} {mi : Nat → Int32} {ml : Nat → Int64} {A : Nat → Nat → Int32} {B : Nat → Nat → Int64} {c : Int32} {cn : Nat} {C : Nat → sp_Cs} (hCC : m_CC mi A cn C) {w : Int32} : pm_Cv e_X10_told [.ref 44, .int c, .int w] (pmM h mi ml A B) (.int (sp_ans (sp_told ((pm_ci c cn).map C) w))) (m_fin h mi ml A B (sp_told ((pm_ci c cn).map C) w)) := by
  obtain ⟨hcn, hn10, hC⟩ := hCC
  have hb := pm_bl_le (sp_in w 0 3)
  cases hci : pm_ci c cn with
  | none =>
    refine pm_enter rfl (Nat.le_of_ble_eq_true rfl) ?_
    show pm_V e_X10_told 0 [some (.ref 44), some (.int c), some (.int w)] [] (pmM h mi ml A B) (0, 0) _
    refine r_aload_0 d_X10_told_0 ?_
    refine r_iload_1 d_X10_told_1 ?_
    refine r_V1 d_X10_told_2 (c_X10_isCaster hcn hn10) rfl rfl rfl ⟨rfl, rfl⟩ (Nat.le_of_ble_eq_true rfl) ?_
    rw [hci]
    show pm_V _ _ _ (.int (nI 0) :: _) _ _ _
    refine r_if_eq d_X10_told_5 (fun c5 => ?_) (fun c5 => absurd (by decide) c5)
    clear c5
    refine r_push d_X10_told_26 ?_
    refine r_ireturn d_X10_told_27 ⟨_, rfl, rfl⟩ ?_
    exact ⟨rfl, rfl⟩
  | some j =>
    obtain ⟨hj, rfl⟩ := pm_ci_some (by omega) hci
    have hc : j < 10 := by omega
    show pm_Cv _ _ _ (.int (sp_ans (if sp_in w 0 3 then .inl (sp_tell (C j) w) else .inl (-1)))) (m_fin h mi ml A B (if sp_in w 0 3 then .inl (sp_tell (C j) w) else .inl (-1)))
    refine pm_enter rfl (Nat.le_of_ble_eq_true rfl) ?_
    show pm_V e_X10_told 0 [some (.ref 44), some (.int (nI j)), some (.int w)] [] (pmM h mi ml A B) (0, 0) _
    refine r_aload_0 d_X10_told_0 ?_
    refine r_iload_1 d_X10_told_1 ?_
    refine r_V1 d_X10_told_2 (c_X10_isCaster hcn hn10) rfl rfl rfl ⟨rfl, rfl⟩ (Nat.le_of_ble_eq_true rfl) ?_
    rw [hci]
    show pm_V _ _ _ (.int (nI 1) :: _) _ _ _
    refine r_if_eq d_X10_told_5 (fun c5 => absurd c5 (by decide)) (fun c5 => ?_)
    clear c5
    refine r_iload_2 d_X10_told_8 ?_
    refine r_push d_X10_told_9 ?_
    refine r_push d_X10_told_10 ?_
    refine r_S3 d_X10_told_11 c_X10_in ⟨rfl, rfl⟩ (Nat.le_of_ble_eq_true rfl) ?_
    refine r_if_eq d_X10_told_14 (fun c14 => ?_) (fun c14 => ?_)
    · -- taken at 14
      have c14 : (pm_bl (sp_in w 0 3)) = 0 := (nI_eq (a := (pm_bl (sp_in w 0 3))) (b := 0) (by omega) (by omega)).mp c14
      rw [if_neg (by rw [pm_bl0.mp c14]; decide)]
      refine r_push d_X10_told_26 ?_
      refine r_ireturn d_X10_told_27 ⟨_, rfl, rfl⟩ ?_
      exact ⟨rfl, rfl⟩
    · -- not taken at 14
      have c14 : ¬ (pm_bl (sp_in w 0 3)) = 0 := fun zz9 => c14 ((nI_eq (a := (pm_bl (sp_in w 0 3))) (b := 0) (by omega) (by omega)).mpr zz9)
      rw [if_pos (pm_bl1 c14)]
      refine r_aload_0 d_X10_told_17 ?_
      refine r_iload_1 d_X10_told_18 ?_
      refine r_iload_2 d_X10_told_19 ?_
      refine r_V2 d_X10_told_20 (c_X10_tells hc (hC j hj)) rfl rfl rfl ⟨rfl, rfl⟩ (Nat.le_of_ble_eq_true rfl) ?_
      refine r_goto d_X10_told_23 ?_
      refine r_ireturn d_X10_told_27 ⟨_, rfl, rfl⟩ ?_
      exact ⟨rfl, rfl⟩
