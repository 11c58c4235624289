set_option maxRecDepth 10000 in
set_option maxHeartbeats 4000000 in
theorem ll_L_law {N9 : Nat} {xs : Nat → Int32} {F : Option Value → pm_H → Prop} (hN : N9 ≤ 3072) (hF : ∀ h1, F (some (.int 1)) h1) : ∀ (n i : Nat) (H : pm_H), N9 ≤ i + 6 * n → i ≤ N9 + 5 → JJ (.inl (.array .int, N9, .inl xs) : pm_C) H → pm_V e_L_law 18 [some (.ref 0), some (.ref 1), some (.ref 44), some (.int (nI i))] [] H (n, 5 * n) F := by
  intro n
  induction n with
  | zero =>
    intro i H hid hib hJJ
    have h0 := JJ_0 hJJ
    refine r_iload_3 d_L_law_18 ?_
    refine r_aload_0 d_L_law_19 ?_
    refine r_slen d_L_law_20 h0 ?_
    refine r_push (v := nI 6) d_L_law_21 ?_
    refine r_isub d_L_law_23 ?_
    refine r_icmp_gt d_L_law_24 (fun c24 => ?_) (fun c24 => ?_)
    · -- taken at 24
      have c24 : ¬ i + 6 ≤ N9 := (law_le (by omega) (by omega) (by omega)).mp c24
      refine r_push (v := nI 1) d_L_law_1535 ?_
      refine r_ireturn d_L_law_1536 ⟨_, rfl, rfl⟩ ?_
      exact hF _
    · -- not taken at 24
      have c24 : i + 6 ≤ N9 := Decidable.byContradiction (fun z => c24 ((law_le (by omega) (by omega) (by omega)).mpr z))
      exfalso; omega
  | succ n ih =>
    intro i H hid hib hJJ
    have h0 := JJ_0 hJJ
    have K9 : i + 6 ≤ N9 → ∀ h2, JJ (.inl (.array .int, N9, .inl xs) : pm_C) h2 → pm_V e_L_law 1529 [some (.ref 0), some (.ref 1), some (.ref 44), some (.int (nI i))] [] h2 (n, 5 * n) F := fun c9 h2 hJ2 => by
      refine r_iinc_3 d_L_law_1529 (Nat.le_of_ble_eq_true rfl) (fun w hw => by cases hw <;> rfl) ?_
      refine r_goto d_L_law_1532 ?_
      rw [show nI i + 6 = nI (i + 6) from nI_add i 6]
      exact ih (i + 6) h2 (by omega) (by omega) hJ2
    refine r_iload_3 d_L_law_18 ?_
    refine r_aload_0 d_L_law_19 ?_
    refine r_slen d_L_law_20 h0 ?_
    refine r_push (v := nI 6) d_L_law_21 ?_
    refine r_isub d_L_law_23 ?_
    refine r_icmp_gt d_L_law_24 (fun c24 => ?_) (fun c24 => ?_)
    · -- taken at 24
      have c24 : ¬ i + 6 ≤ N9 := (law_le (by omega) (by omega) (by omega)).mp c24
      refine r_push (v := nI 1) d_L_law_1535 ?_
      refine r_ireturn d_L_law_1536 ⟨_, rfl, rfl⟩ ?_
      exact hF _
    · -- not taken at 24
      have c24 : i + 6 ≤ N9 := Decidable.byContradiction (fun z => c24 ((law_le (by omega) (by omega) (by omega)).mpr z))
      refine r_aload_0 d_L_law_27 ?_
      refine r_iload_3 d_L_law_28 ?_
      refine r_sld d_L_law_29 h0 (pm_ixN (by omega) (by omega)) ?_
      refine r_push (v := nI 63) d_L_law_30 ?_
      refine r_iand d_L_law_32 ?_
      refine r_switch d_L_law_33 (fun _ => ?_) (fun t _ _ ht => ?_) (by decide)
      · exact (K9 c24 H hJJ).bud (Nat.le_succ _) (by show 5 * n ≤ 5 * (n + 1); omega)
      · have ht := List.mem_of_getElem? ht
        simp only [List.mem_cons, List.not_mem_nil, or_false] at ht
        rcases ht with rfl | rfl | rfl | rfl | rfl | rfl | rfl | rfl | rfl | rfl | rfl | rfl | rfl | rfl | rfl | rfl | rfl | rfl | rfl | rfl | rfl | rfl | rfl | rfl | rfl | rfl | rfl | rfl | rfl | rfl | rfl | rfl | rfl | rfl | rfl | rfl | rfl
        · exact lc_0 (c1 := n) (c2 := 5 * n) hN c24 hJJ (K9 c24)
        · exact lc_1 (c1 := n) (c2 := 5 * n) hN c24 hJJ (K9 c24)
        · exact lc_2 (c1 := n) (c2 := 5 * n) hN c24 hJJ (K9 c24)
        · exact lc_3 (c1 := n) (c2 := 5 * n) hN c24 hJJ (K9 c24)
        · exact lc_4 (c1 := n) (c2 := 5 * n) hN c24 hJJ (K9 c24)
        · exact lc_5 (c1 := n) (c2 := 5 * n) hN c24 hJJ (K9 c24)
        · exact lc_6 (c1 := n) (c2 := 5 * n) hN c24 hJJ (K9 c24)
        · exact lc_7 (c1 := n) (c2 := 5 * n) hN c24 hJJ (K9 c24)
        · exact lc_8 (c1 := n) (c2 := 5 * n) hN c24 hJJ (K9 c24)
        · exact lc_9 (c1 := n) (c2 := 5 * n) hN c24 hJJ (K9 c24)
        · exact lc_10 (c1 := n) (c2 := 5 * n) hN c24 hJJ (K9 c24)
        · exact lc_11 (c1 := n) (c2 := 5 * n) hN c24 hJJ (K9 c24)
        · exact lc_12 (c1 := n) (c2 := 5 * n) hN c24 hJJ (K9 c24)
        · exact lc_13 (c1 := n) (c2 := 5 * n) hN c24 hJJ (K9 c24)
        · exact lc_14 (c1 := n) (c2 := 5 * n) hN c24 hJJ (K9 c24)
        · exact lc_15 (c1 := n) (c2 := 5 * n) hN c24 hJJ (K9 c24)
        · exact lc_16 (c1 := n) (c2 := 5 * n) hN c24 hJJ (K9 c24)
        · exact lc_17 (c1 := n) (c2 := 5 * n) hN c24 hJJ (K9 c24)
        · exact lc_18 (c1 := n) (c2 := 5 * n) hN c24 hJJ (K9 c24)
        · exact lc_19 (c1 := n) (c2 := 5 * n) hN c24 hJJ (K9 c24)
        · exact lc_20 (c1 := n) (c2 := 5 * n) hN c24 hJJ (K9 c24)
        · exact lc_21 (c1 := n) (c2 := 5 * n) hN c24 hJJ (K9 c24)
        · exact lc_22 (c1 := n) (c2 := 5 * n) hN c24 hJJ (K9 c24)
        · exact lc_23 (c1 := n) (c2 := 5 * n) hN c24 hJJ (K9 c24)
        · exact lc_24 (c1 := n) (c2 := 5 * n) hN c24 hJJ (K9 c24)
        · exact lc_25 (c1 := n) (c2 := 5 * n) hN c24 hJJ (K9 c24)
        · exact lc_26 (c1 := n) (c2 := 5 * n) hN c24 hJJ (K9 c24)
        · exact lc_27 (c1 := n) (c2 := 5 * n) hN c24 hJJ (K9 c24)
        · exact lc_28 (c1 := n) (c2 := 5 * n) hN c24 hJJ (K9 c24)
        · exact lc_29 (c1 := n) (c2 := 5 * n) hN c24 hJJ (K9 c24)
        · exact lc_30 (c1 := n) (c2 := 5 * n) hN c24 hJJ (K9 c24)
        · exact lc_31 (c1 := n) (c2 := 5 * n) hN c24 hJJ (K9 c24)
        · exact lc_32 (c1 := n) (c2 := 5 * n) hN c24 hJJ (K9 c24)
        · exact lc_33 (c1 := n) (c2 := 5 * n) hN c24 hJJ (K9 c24)
        · exact lc_34 (c1 := n) (c2 := 5 * n) hN c24 hJJ (K9 c24)
        · exact lc_35 (c1 := n) (c2 := 5 * n) hN c24 hJJ (K9 c24)
        · exact lc_36 (c1 := n) (c2 := 5 * n) hN c24 hJJ (K9 c24)
set_option maxRecDepth 10000 in
set_option maxHeartbeats 4000000 in
theorem lb_L_law {N9 : Nat} {xs : Nat → Int32} {g : Nat → Option pm_C} (hN : N9 ≤ 3072) (hg : g 0 = some (.inl (.array .int, N9, .inl xs) : pm_C)) {F : Option Value → pm_H → Prop} (hF : ∀ h1, F (some (.int 1)) h1) : pm_V e_L_law 0 [some (.ref 0), none, none, none] [] ((1, g) : pm_H) (633982, 7200303) F := by
  refine r_new (b' := (633981, 7200288)) d_L_law_0 rfl rfl ?_
  change pm_V _ _ _ (.ref 1 :: _) ((2, (fun q => if q = 1 then some (.inr (9, [.null, .int 0, .null, .null, .null, .null, .null, .null, .null, .null, .null, .int 0, .long 0, .long 0, .long 0])) else g q)) : pm_H) _ _
  refine r_dup d_L_law_3 rfl ?_
  refine r_I0v (b' := (633939, 7199452)) d_L_law_4 (c_X9_init (g := (fun q => if q = 1 then some (.inr (9, [.null, .int 0, .null, .null, .null, .null, .null, .null, .null, .null, .null, .int 0, .long 0, .long 0, .long 0])) else g q)) rfl) rfl rfl (Nat.le_of_ble_eq_true rfl) ?_
  refine r_astore_1 d_L_law_7 (Nat.le_of_ble_eq_true rfl) (fun w hw => by cases hw <;> rfl) ?_
  refine r_new (b' := (633938, 7199419)) d_L_law_8 rfl rfl ?_
  change pm_V _ _ _ (.ref 44 :: _) ((45, (fun q => if q = 44 then some (.inr (10, [.int 0, .null, .long 0, .long 0, .long 0, .int 0, .null, .null, .null, .null, .null, .null, .null, .null, .null, .null, .null, .null, .long 0, .long 0, .long 0, .null, .null, .null, .int 0, .null, .null, .null, .null, .null, .int 0, .null, .null])) else (pmX ((44, (fun q => if q = 1 then some (.inr (9, [.null, .int 0, .null, .null, .null, .null, .null, .null, .null, .null, .null, .int 0, .long 0, .long 0, .long 0])) else g q)) : pm_H) xi0 xl0 (fun _ => none) XA0 (fun _ _ => 0)).2 q)) : pm_H) _ _
  refine r_dup d_L_law_11 rfl ?_
  refine r_I0v (b' := (633915, 7198448)) d_L_law_12 (c_X10_init (g := (fun q => if q = 44 then some (.inr (10, [.int 0, .null, .long 0, .long 0, .long 0, .int 0, .null, .null, .null, .null, .null, .null, .null, .null, .null, .null, .null, .null, .long 0, .long 0, .long 0, .null, .null, .null, .int 0, .null, .null, .null, .null, .null, .int 0, .null, .null])) else (pmX ((44, (fun q => if q = 1 then some (.inr (9, [.null, .int 0, .null, .null, .null, .null, .null, .null, .null, .null, .null, .int 0, .long 0, .long 0, .long 0])) else g q)) : pm_H) xi0 xl0 (fun _ => none) XA0 (fun _ _ => 0)).2 q)) rfl) rfl rfl (Nat.le_of_ble_eq_true rfl) ?_
  rw [law_h0 (g := (fun q => if q = 1 then some (.inr (9, [.null, .int 0, .null, .null, .null, .null, .null, .null, .null, .null, .null, .int 0, .long 0, .long 0, .long 0])) else g q))]
  refine r_astore_2 d_L_law_15 (Nat.le_of_ble_eq_true rfl) (fun w hw => by cases hw <;> rfl) ?_
  refine r_push (v := nI 0) d_L_law_16 ?_
  refine r_istore_3 d_L_law_17 (Nat.le_of_ble_eq_true rfl) (fun w hw => by cases hw <;> rfl) ?_
  exact (ll_L_law hN hF 512 0 _ (by omega) (by omega) (j_init (g := (fun q => if q = 1 then some (.inr (9, [.null, .int 0, .null, .null, .null, .null, .null, .null, .null, .null, .null, .int 0, .long 0, .long 0, .long 0])) else g q)) hg)).bud (by decide) (by decide)
