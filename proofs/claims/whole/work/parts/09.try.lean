def sp_rest (k x : Nat) : Nat := if x = 0 then 0 else if x % k = 0 then k else x % k
set_option maxRecDepth 10000 in
theorem c_X6_rest {h : pm_H} {a ci : Nat} {fs : List Value} {n k f x : Nat} (hci : (ci = 6 ∧ fs = [.int (nI n), .int (nI k), .int (nI f)])) (ht : h.2 a = some (.inr (ci, fs))) (hk : 2 ≤ k ∧ k ≤ 8) (hx : x ≤ 60) : pm_Cv e_X6_rest [.ref a, .int (nI x)] h (.int (nI (sp_rest k x))) h := by
  obtain ⟨rfl, rfl⟩ := hci
  refine pm_enter rfl (Nat.le_of_ble_eq_true rfl) ?_
  show pm_V e_X6_rest 0 [some (.ref a), some (.int (nI x)), none] [] h (0, 0) _
  refine r_iload_1 d_X6_rest_0 ?_
  refine r_push d_X6_rest_1 ?_
  refine r_icmp_lt d_X6_rest_2 (fun c2 => ?_) (fun c2 => ?_)
  · -- taken at 2
    refine r_push d_X6_rest_13 ?_
    refine r_ireturn d_X6_rest_14 ⟨_, rfl, rfl⟩ ?_
    sorry
  · -- not taken at 2
    refine r_aload_0 d_X6_rest_5 ?_
    refine r_get d_X6_rest_6 s6_by ht rfl ?_
    refine r_push d_X6_rest_9 ?_
    refine r_icmp_ge d_X6_rest_10 (fun c10 => ?_) (fun c10 => ?_)
    · -- taken at 10
      refine r_iload_1 d_X6_rest_15 ?_
      refine r_aload_0 d_X6_rest_16 ?_
      refine r_get d_X6_rest_17 s6_by ht rfl ?_
      refine r_irem d_X6_rest_20 (nI_ne0 (by omega) (by omega)) ?_
      refine r_istore_2 d_X6_rest_21 (Nat.le_of_ble_eq_true rfl) (fun w hw => by cases hw <;> rfl) ?_
      refine r_iload_2 d_X6_rest_22 ?_
      refine r_if_ne d_X6_rest_23 (fun c23 => ?_) (fun c23 => ?_)
      · -- taken at 23
        refine r_iload_2 d_X6_rest_33 ?_
        refine r_ireturn d_X6_rest_34 ⟨_, rfl, rfl⟩ ?_
        sorry
      · -- not taken at 23
        refine r_aload_0 d_X6_rest_26 ?_
        refine r_get d_X6_rest_27 s6_by ht rfl ?_
        refine r_goto d_X6_rest_30 ?_
        refine r_ireturn d_X6_rest_34 ⟨_, rfl, rfl⟩ ?_
        sorry
    · -- not taken at 10
      refine r_push d_X6_rest_13 ?_
      refine r_ireturn d_X6_rest_14 ⟨_, rfl, rfl⟩ ?_
      sorry
