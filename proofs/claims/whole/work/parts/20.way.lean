/-! the way from a number to another -/
def sp_aft (x act : Nat) : Nat := if act = 6 then sp_turn x else if act = 7 then 63 - x else if act = 8 then sp_nest x else x ^^^ 2 ^ act
theorem sp_aft_lt : ∀ x, x < 64 → ∀ act, act < 9 → sp_aft x act < 64 := by decide +kernel
theorem pm_xbit : ∀ x, x < 64 → ∀ act, act < 6 → nI x ^^^ (nI 1 <<< (nI act &&& 31)) = nI (x ^^^ 2 ^ act) := by decide +kernel
theorem pm_lbit : ∀ lt, lt < 512 → ∀ act, act < 9 → (nI lt >>> (nI act &&& 31)) &&& nI 1 = nI (lt / 2 ^ act % 2) := by decide +kernel
def bI (o : Option Nat) : Int32 := match o with
  | none => -1
  | some x => nI x
abbrev sp_St : Type := Nat × (Nat → Nat) × (Nat → Option Nat) × (Nat → Nat)
/-- one act tried at a number -/
def sp_w1 (lt at_ : Nat) (s : sp_St) (act : Nat) : sp_St := if lt / 2 ^ act % 2 = 1 ∧ s.2.2.1 (sp_aft at_ act) = none ∧ s.1 < 64 then (s.1 + 1, va_up s.2.1 s.1 (sp_aft at_ act), va_up s.2.2.1 (sp_aft at_ act) (some at_), va_up s.2.2.2 (sp_aft at_ act) act) else s
def sp_wi (lt at_ : Nat) (s : sp_St) : Nat → sp_St
  | 0 => s
  | a + 1 => sp_w1 lt at_ (sp_wi lt at_ s a) a
def sp_wo (lt : Nat) : Nat → Nat → sp_St → sp_St
  | 0, _, s => s
  | d + 1, nx, s => if nx < s.1 then sp_wo lt d (nx + 1) (sp_wi lt (s.2.1 nx) s 9) else s
def sp_w0 (x : Nat) (wt : Nat → Nat) (bf : Nat → Option Nat) (mb : Nat → Nat) : sp_St := (1, va_up wt 0 x, va_up (pm_fl none bf 64) x (some x), mb)
def pmF (h : pm_H) (wt : Nat → Nat) (bf : Nat → Option Nat) (mb ac : Nat → Nat) (cn : Nat) : pm_H := (h.1, fun q => if q = 7 then some (.inr (8, [.ref 8, .ref 9, .ref 10, .ref 11, .int (nI cn)])) else if q = 8 then some (at_I 64 (fun j => nI (wt j))) else if q = 9 then some (at_I 64 (fun j => bI (bf j))) else if q = 10 then some (at_I 64 (fun j => nI (mb j))) else if q = 11 then some (at_I 64 (fun j => nI (ac j))) else h.2 q)
section PF
variable {h : pm_H} {wt wt' mb mb' ac ac' : Nat → Nat} {bf bf' : Nat → Option Nat} {cn cn' : Nat}
theorem pmF_7 : pm_up (pmF h wt bf mb ac cn) 7 (.inr (8, [.ref 8, .ref 9, .ref 10, .ref 11, .int (nI cn')])) = pmF h wt bf mb ac cn' := by
  refine Prod.ext rfl (funext fun q => ?_)
  show (if q = 7 then _ else if q = 7 then _ else _) = if q = 7 then _ else _
  by_cases e : q = 7 <;> simp [e]
theorem pmF_8 : pm_up (pmF h wt bf mb ac cn) 8 (at_I 64 (fun j => nI (wt' j))) = pmF h wt' bf mb ac cn := by
  refine Prod.ext rfl (funext fun q => ?_)
  show (if q = 8 then _ else if q = 7 then _ else if q = 8 then _ else _) = if q = 7 then _ else if q = 8 then _ else _
  by_cases e : q = 8 <;> simp [e]
theorem pmF_9 : pm_up (pmF h wt bf mb ac cn) 9 (at_I 64 (fun j => bI (bf' j))) = pmF h wt bf' mb ac cn := by
  refine Prod.ext rfl (funext fun q => ?_)
  show (if q = 9 then _ else if q = 7 then _ else if q = 8 then _ else if q = 9 then _ else _) = if q = 7 then _ else if q = 8 then _ else if q = 9 then _ else _
  by_cases e : q = 9 <;> simp [e]
theorem pmF_10 : pm_up (pmF h wt bf mb ac cn) 10 (at_I 64 (fun j => nI (mb' j))) = pmF h wt bf mb' ac cn := by
  refine Prod.ext rfl (funext fun q => ?_)
  show (if q = 10 then _ else if q = 7 then _ else if q = 8 then _ else if q = 9 then _ else if q = 10 then _ else _) = if q = 7 then _ else if q = 8 then _ else if q = 9 then _ else if q = 10 then _ else _
  by_cases e : q = 10 <;> simp [e]
theorem pmF_11 : pm_up (pmF h wt bf mb ac cn) 11 (at_I 64 (fun j => nI (ac' j))) = pmF h wt bf mb ac' cn := by
  refine Prod.ext rfl (funext fun q => ?_)
  show (if q = 11 then _ else if q = 7 then _ else if q = 8 then _ else if q = 9 then _ else if q = 10 then _ else if q = 11 then _ else _) = if q = 7 then _ else if q = 8 then _ else if q = 9 then _ else if q = 10 then _ else if q = 11 then _ else _
  by_cases e : q = 11 <;> simp [e]
end PF
theorem pm_nu {g : Nat → Nat} {t x : Nat} : upd (fun j => nI (g j)) t (nI x) = fun j => nI (va_up g t x j) := by
  funext j
  simp only [upd, va_up]
  split <;> rfl
theorem pm_bu {g : Nat → Option Nat} {t x : Nat} : upd (fun j => bI (g j)) t (nI x) = fun j => bI (va_up g t (some x) j) := by
  funext j
  simp only [upd, va_up]
  split <;> rfl
theorem pm_bfl {g : Nat → Option Nat} {n : Nat} : pm_fl (-1) (fun j => bI (g j)) n = fun j => bI (pm_fl none g n j) := by
  funext j
  simp only [pm_fl]
  split <;> rfl
theorem pm_nIs (f : Nat → Int32) : ∃ g : Nat → Nat, f = fun j => nI (g j) := ⟨fun j => (f j).toUInt32.toNat, funext fun j => by
  show f j = Int32.ofNat (f j).toUInt32.toNat
  apply Int32.toBitVec_inj.mp
  simp⟩

theorem pm_nI64 : ∀ x, x < 64 → ¬ nI x = -1 := by decide +kernel
theorem bI_ne {o : Option Nat} (h : ∀ x, o = some x → x < 64) : (bI o = -1) ↔ o = none := by
  cases o with
  | none => simp [bI]
  | some x => exact ⟨fun e => absurd e (pm_nI64 x (h x rfl)), fun e => by cases e⟩
set_option maxRecDepth 10000 in
set_option maxHeartbeats 4000000 in
theorem c_X8_after {h : pm_H} {x act : Nat} (hx : x < 64) (ha : act < 9) : pm_Cv e_X8_after [.int (nI x), .int (nI act)] h (.int (nI (sp_aft x act))) h := by
  refine pm_enter rfl (Nat.le_of_ble_eq_true rfl) ?_
  show pm_V e_X8_after 0 [some (.int (nI x)), some (.int (nI act))] [] h (0, 0) _
  refine r_iload_1 d_X8_after_0 ?_
  refine r_sw3 (a0 := 6) (a1 := 7) (a2 := 8) d_X8_after_1 rfl rfl rfl (fun c1 => ?_) (fun c1 => ?_) (fun c1 => ?_) (fun c1a c1b c1c => ?_)
  · -- place 6 at 1
    have c1 : act = 6 := (nI_eq (a := act) (b := 6) (by omega) (by omega)).mp c1
    refine r_iload_0 d_X8_after_28 ?_
    refine r_S1 d_X8_after_29 (c_X9_turnedBits hx) ⟨rfl, rfl⟩ (Nat.le_of_ble_eq_true rfl) ?_
    refine r_ireturn d_X8_after_32 ⟨_, rfl, rfl⟩ ?_
    exact ⟨congrArg (fun z => some (Value.int (nI z))) (by unfold sp_aft; repeat (first | rw [if_pos (by omega)] | rw [if_neg (by omega)])), rfl⟩
  · -- place 7 at 1
    have c1 : act = 7 := (nI_eq (a := act) (b := 7) (by omega) (by omega)).mp c1
    refine r_iload_0 d_X8_after_33 ?_
    refine r_S1 d_X8_after_34 (c_X9_oppositeBits hx) ⟨rfl, rfl⟩ (Nat.le_of_ble_eq_true rfl) ?_
    refine r_ireturn d_X8_after_37 ⟨_, rfl, rfl⟩ ?_
    exact ⟨congrArg (fun z => some (Value.int (nI z))) (by unfold sp_aft; repeat (first | rw [if_pos (by omega)] | rw [if_neg (by omega)])), rfl⟩
  · -- place 8 at 1
    have c1 : act = 8 := (nI_eq (a := act) (b := 8) (by omega) (by omega)).mp c1
    refine r_iload_0 d_X8_after_38 ?_
    refine r_S1 d_X8_after_39 (c_X9_nestedBits hx) ⟨rfl, rfl⟩ (Nat.le_of_ble_eq_true rfl) ?_
    refine r_ireturn d_X8_after_42 ⟨_, rfl, rfl⟩ ?_
    exact ⟨congrArg (fun z => some (Value.int (nI z))) (by unfold sp_aft; repeat (first | rw [if_pos (by omega)] | rw [if_neg (by omega)])), rfl⟩
  · -- the rest at 1
    have c1a : ¬ act = 6 := fun zz9 => c1a ((nI_eq (a := act) (b := 6) (by omega) (by omega)).mpr zz9)
    have c1b : ¬ act = 7 := fun zz9 => c1b ((nI_eq (a := act) (b := 7) (by omega) (by omega)).mpr zz9)
    have c1c : ¬ act = 8 := fun zz9 => c1c ((nI_eq (a := act) (b := 8) (by omega) (by omega)).mpr zz9)
    refine r_iload_0 d_X8_after_43 ?_
    refine r_push (v := nI 1) d_X8_after_44 ?_
    refine r_iload_1 d_X8_after_45 ?_
    refine r_ishl d_X8_after_46 ?_
    refine r_ixor d_X8_after_47 ?_
    rw [pm_xbit x hx act (by omega)]
    refine r_ireturn d_X8_after_48 ⟨_, rfl, rfl⟩ ?_
    exact ⟨congrArg (fun z => some (Value.int (nI z))) (by unfold sp_aft; repeat (first | rw [if_pos (by omega)] | rw [if_neg (by omega)])), rfl⟩
set_option maxRecDepth 10000 in
set_option maxHeartbeats 4000000 in
theorem c_X8_actAt {h : pm_H} {wt mb ac : Nat → Nat} {bf : Nat → Option Nat} {cn : Nat} {i : Int32} (hc : cn ≤ 64) : pm_Cv e_X8_actAt [.ref 7, .int i] (pmF h wt bf mb ac cn) (.int (if 0 ≤ i ∧ i < nI cn then nI (ac (cn - 1 - i.toNatClampNeg)) else -9)) (pmF h wt bf mb ac cn) := by
  refine pm_enter rfl (Nat.le_of_ble_eq_true rfl) ?_
  show pm_V e_X8_actAt 0 [some (.ref 7), some (.int i)] [] (pmF h wt bf mb ac cn) (0, 0) _
  by_cases hr : 0 ≤ i ∧ i < nI cn
  · obtain ⟨j, hj, rfl⟩ := pm_rng (x := i) (n := cn) (Int32.not_lt.mpr hr.1) (Int32.not_le.mpr hr.2) (by omega)
    rw [if_pos hr, nI_clamp (by omega)]
    refine r_iload_1 d_X8_actAt_0 ?_
    refine r_if_lt d_X8_actAt_1 (fun c1 => ?_) (fun c1 => ?_)
    · -- taken at 1
      have c1 : j < 0 := (nI_ltI (a := j) (b := 0) (by omega) (by omega)).mp c1
      exfalso; omega
    · -- not taken at 1
      have c1 : ¬ j < 0 := fun zz9 => c1 ((nI_ltI (a := j) (b := 0) (by omega) (by omega)).mpr zz9)
      refine r_iload_1 d_X8_actAt_4 ?_
      refine r_aload_0 d_X8_actAt_5 ?_
      refine r_get d_X8_actAt_6 s8_actCount rfl rfl ?_
      refine r_icmp_lt d_X8_actAt_9 (fun c9 => ?_) (fun c9 => ?_)
      · -- taken at 9
        have c9 : j < cn := (nI_ltI (a := j) (b := cn) (by omega) (by omega)).mp c9
        refine r_aload_0 d_X8_actAt_17 ?_
        refine r_get d_X8_actAt_18 s8_acts rfl rfl ?_
        refine r_aload_0 d_X8_actAt_21 ?_
        refine r_get d_X8_actAt_22 s8_actCount rfl rfl ?_
        refine r_push (v := nI 1) d_X8_actAt_25 ?_
        refine r_isub d_X8_actAt_26 ?_
        rw [pk_sub (a := cn) (b := 1) (by omega)]
        refine r_iload_1 d_X8_actAt_27 ?_
        refine r_isub d_X8_actAt_28 ?_
        rw [pk_sub (a := (cn - 1)) (b := j) (by omega)]
        refine r_iald d_X8_actAt_29 rfl (pm_ixN (by omega) (by omega)) ?_
        refine r_ireturn d_X8_actAt_30 ⟨_, rfl, rfl⟩ ?_
        exact ⟨rfl, rfl⟩
      · -- not taken at 9
        have c9 : ¬ j < cn := fun zz9 => c9 ((nI_ltI (a := j) (b := cn) (by omega) (by omega)).mpr zz9)
        exfalso; omega
  · rw [if_neg hr]
    refine r_iload_1 d_X8_actAt_0 ?_
    refine r_if_lt d_X8_actAt_1 (fun c1 => ?_) (fun c1 => ?_)
    · -- taken at 1
      refine r_push d_X8_actAt_12 ?_
      refine r_goto d_X8_actAt_14 ?_
      refine r_ireturn d_X8_actAt_30 ⟨_, rfl, rfl⟩ ?_
      exact ⟨rfl, rfl⟩
    · -- not taken at 1
      refine r_iload_1 d_X8_actAt_4 ?_
      refine r_aload_0 d_X8_actAt_5 ?_
      refine r_get d_X8_actAt_6 s8_actCount rfl rfl ?_
      refine r_icmp_lt d_X8_actAt_9 (fun c9 => ?_) (fun c9 => ?_)
      · -- taken at 9
        exact absurd ⟨Int32.not_lt.mp c1, c9⟩ hr
      · -- not taken at 9
        refine r_push d_X8_actAt_12 ?_
        refine r_goto d_X8_actAt_14 ?_
        refine r_ireturn d_X8_actAt_30 ⟨_, rfl, rfl⟩ ?_
        exact ⟨rfl, rfl⟩
