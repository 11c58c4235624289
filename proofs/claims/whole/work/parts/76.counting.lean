/-! counting bits: the wide sums, byte by byte -/
def sp_mk (c : Nat) : Nat → Nat
  | 0 => 0
  | n + 1 => c + 256 * sp_mk c n
theorem sp_as {a b c d : Nat} (ha : a < 256) (hc : c < 256) : (a + 256 * b) &&& (c + 256 * d) = (a &&& c) + 256 * (b &&& d) := by
  have h1 : ((a + 256 * b) &&& (c + 256 * d)) % 2 ^ 8 = (a &&& c) := by
    rw [Nat.and_mod_two_pow, show (a + 256 * b) % 2 ^ 8 = a by omega, show (c + 256 * d) % 2 ^ 8 = c by omega]
  have h2 : ((a + 256 * b) &&& (c + 256 * d)) / 2 ^ 8 = (b &&& d) := by
    rw [Nat.and_div_two_pow, show (a + 256 * b) / 2 ^ 8 = b by omega, show (c + 256 * d) / 2 ^ 8 = d by omega]
  omega
def sp_e1 (A : Nat) : Nat := A - (A / 2 &&& 85)
def sp_e2 (A : Nat) : Nat := (A &&& 51) + (A / 4 &&& 51)
def sp_p8 (A : Nat) : Nat := A % 2 + A / 2 % 2 + A / 4 % 2 + A / 8 % 2 + A / 16 % 2 + A / 32 % 2 + A / 64 % 2 + A / 128 % 2
def sp_k1 (n X : Nat) : Nat := X - (X / 2 &&& sp_mk 85 n)
def sp_k2 (n X : Nat) : Nat := (X &&& sp_mk 51 n) + (X / 4 &&& sp_mk 51 n)
def sp_k3 (n X : Nat) : Nat := (X + X / 16) &&& sp_mk 15 n
theorem sp_a1 : ∀ A, A < 256 → ∀ b, b < 2 → (A / 2 + 128 * b) &&& 85 = (A / 2) &&& 85 := by decide +kernel
theorem sp_a1b : ∀ A, A < 256 → (A / 2) &&& 85 ≤ A := by decide +kernel
theorem sp_a2 : ∀ A, A < 256 → ∀ b, b < 4 → (A / 4 + 64 * b) &&& 51 = (A / 4) &&& 51 := by decide +kernel
theorem sp_a3 : ∀ A, A < 69 → ∀ b, b < 5 → (A + A / 16 + 16 * b) &&& 15 = (A + A / 16) % 16 := by decide +kernel
theorem sp_a4 : ∀ A, A < 256 → sp_e1 A < 256 ∧ sp_e2 (sp_e1 A) < 69 ∧ sp_e2 (sp_e1 A) % 16 < 5 ∧ (sp_e2 (sp_e1 A) + sp_e2 (sp_e1 A) / 16) % 16 = sp_p8 A ∧ sp_p8 A ≤ 8 := by decide +kernel
theorem sp_k1_s (n X : Nat) : sp_k1 (n + 1) X = sp_e1 (X % 256) + 256 * sp_k1 n (X / 256) := by
  have hA : X % 256 < 256 := Nat.mod_lt _ (by decide)
  have hX : X = X % 256 + 256 * (X / 256) := by omega
  generalize X % 256 = A at hA hX
  generalize X / 256 = B at hX
  subst hX
  show (A + 256 * B) - ((A + 256 * B) / 2 &&& (85 + 256 * sp_mk 85 n)) = (A - (A / 2 &&& 85)) + 256 * (B - (B / 2 &&& sp_mk 85 n))
  have h1 := sp_a1 A hA (B % 2) (by omega)
  have h2 := sp_a1b A hA
  have h3 : B / 2 &&& sp_mk 85 n ≤ B / 2 := Nat.and_le_left
  rw [show (A + 256 * B) / 2 = (A / 2 + 128 * (B % 2)) + 256 * (B / 2) by omega, sp_as (by omega) (by decide), h1]
  omega
theorem sp_k2_s (n X : Nat) : sp_k2 (n + 1) X = sp_e2 (X % 256) + 256 * sp_k2 n (X / 256) := by
  have hA : X % 256 < 256 := Nat.mod_lt _ (by decide)
  have hX : X = X % 256 + 256 * (X / 256) := by omega
  generalize X % 256 = A at hA hX
  generalize X / 256 = B at hX
  subst hX
  show ((A + 256 * B) &&& (51 + 256 * sp_mk 51 n)) + ((A + 256 * B) / 4 &&& (51 + 256 * sp_mk 51 n)) = ((A &&& 51) + (A / 4 &&& 51)) + 256 * ((B &&& sp_mk 51 n) + (B / 4 &&& sp_mk 51 n))
  have h1 := sp_a2 A hA (B % 4) (by omega)
  rw [sp_as hA (by decide), show (A + 256 * B) / 4 = (A / 4 + 64 * (B % 4)) + 256 * (B / 4) by omega, sp_as (by omega) (by decide), h1]
  omega
def sp_k12 (n X : Nat) : Nat := sp_k2 n (sp_k1 n X)
theorem sp_k12_s (n X : Nat) : sp_k12 (n + 1) X = sp_e2 (sp_e1 (X % 256)) + 256 * sp_k12 n (X / 256) := by
  have hA := sp_a4 (X % 256) (Nat.mod_lt _ (by decide))
  unfold sp_k12
  rw [sp_k1_s, sp_k2_s, show (sp_e1 (X % 256) + 256 * sp_k1 n (X / 256)) % 256 = sp_e1 (X % 256) by omega, show (sp_e1 (X % 256) + 256 * sp_k1 n (X / 256)) / 256 = sp_k1 n (X / 256) by omega]
theorem sp_k12_l : ∀ (n X : Nat), sp_k12 n X % 16 < 5
  | 0, X => by
    show ((sp_k1 0 X &&& 0) + (sp_k1 0 X / 4 &&& 0)) % 16 < 5
    rw [Nat.and_zero, Nat.and_zero]; decide
  | n + 1, X => by
    have hA := sp_a4 (X % 256) (Nat.mod_lt _ (by decide))
    rw [sp_k12_s]; omega
def sp_zz : Nat → Nat → Nat
  | 0, _ => 0
  | n + 1, X => sp_p8 (X % 256) + 256 * sp_zz n (X / 256)
def sp_pn : Nat → Nat → Nat
  | 0, _ => 0
  | n + 1, X => sp_p8 (X % 256) + sp_pn n (X / 256)
theorem sp_k3_z : ∀ (n X : Nat), sp_k3 n (sp_k12 n X) = sp_zz n X
  | 0, X => by
    show _ &&& 0 = 0
    rw [Nat.and_zero]
  | n + 1, X => by
    have ih := sp_k3_z n (X / 256)
    have hA := sp_a4 (X % 256) (Nat.mod_lt _ (by decide))
    have hl := sp_k12_l n (X / 256)
    show _ = sp_p8 (X % 256) + 256 * sp_zz n (X / 256)
    rw [← ih, sp_k12_s]
    generalize sp_e2 (sp_e1 (X % 256)) = t at hA
    generalize sp_k12 n (X / 256) = Y at hl
    show ((t + 256 * Y) + (t + 256 * Y) / 16) &&& (15 + 256 * sp_mk 15 n) = sp_p8 (X % 256) + 256 * ((Y + Y / 16) &&& sp_mk 15 n)
    rw [show (t + 256 * Y) + (t + 256 * Y) / 16 = (t + t / 16 + 16 * (Y % 16)) + 256 * (Y + Y / 16) by omega, sp_as (by omega) (by decide), sp_a3 t hA.2.1 (Y % 16) hl, hA.2.2.2.1]
/-- the sum of the eight bytes -/
theorem sp_fold (X : Nat) : sp_zz 8 X < 2 ^ 60 ∧ sp_zz 8 X + sp_zz 8 X / 256 < 2 ^ 61 ∧ (let a := sp_zz 8 X + sp_zz 8 X / 256; let b := a + a / 65536; b < 2 ^ 62 ∧ (b + b / 4294967296) < 2 ^ 63 ∧ (b + b / 4294967296) % 128 = sp_pn 8 X) := by
  have h : ∀ Y, sp_p8 (Y % 256) ≤ 8 := fun Y => (sp_a4 (Y % 256) (Nat.mod_lt _ (by decide))).2.2.2.2
  simp only [sp_zz, sp_pn]
  have h0 := h X
  have h1 := h (X / 256)
  have h2 := h (X / 256 / 256)
  have h3 := h (X / 256 / 256 / 256)
  have h4 := h (X / 256 / 256 / 256 / 256)
  have h5 := h (X / 256 / 256 / 256 / 256 / 256)
  have h6 := h (X / 256 / 256 / 256 / 256 / 256 / 256)
  have h7 := h (X / 256 / 256 / 256 / 256 / 256 / 256 / 256)
  generalize sp_p8 (X % 256) = p0 at *
  generalize sp_p8 (X / 256 % 256) = p1 at *
  generalize sp_p8 (X / 256 / 256 % 256) = p2 at *
  generalize sp_p8 (X / 256 / 256 / 256 % 256) = p3 at *
  generalize sp_p8 (X / 256 / 256 / 256 / 256 % 256) = p4 at *
  generalize sp_p8 (X / 256 / 256 / 256 / 256 / 256 % 256) = p5 at *
  generalize sp_p8 (X / 256 / 256 / 256 / 256 / 256 / 256 % 256) = p6 at *
  generalize sp_p8 (X / 256 / 256 / 256 / 256 / 256 / 256 / 256 % 256) = p7 at *
  obtain ⟨R6, e6⟩ : ∃ R6, R6 = p6 + 256 * p7 := ⟨_, rfl⟩
  obtain ⟨R5, e5⟩ : ∃ R5, R5 = p5 + 256 * R6 := ⟨_, rfl⟩
  obtain ⟨R4, e4⟩ : ∃ R4, R4 = p4 + 256 * R5 := ⟨_, rfl⟩
  obtain ⟨R3, e3⟩ : ∃ R3, R3 = p3 + 256 * R4 := ⟨_, rfl⟩
  obtain ⟨R2, e2⟩ : ∃ R2, R2 = p2 + 256 * R3 := ⟨_, rfl⟩
  obtain ⟨R1, e1⟩ : ∃ R1, R1 = p1 + 256 * R2 := ⟨_, rfl⟩
  rw [show p7 + 256 * 0 = p7 from rfl, ← e6, ← e5, ← e4, ← e3, ← e2, ← e1]
  have d1 : (p0 + 256 * R1) / 256 = R1 := by omega
  have d2 : (p0 + 256 * R1 + R1) / 65536 = R2 + R3 := by omega
  have d3 : (p0 + 256 * R1 + R1 + (R2 + R3)) / 4294967296 = R4 + R5 + R6 + p7 := by omega
  rw [d1, d2, d3]
  omega
theorem sp_cnt_cg {p q : Nat → Bool} : ∀ {n}, (∀ j, j < n → p j = q j) → sp_cnt p n = sp_cnt q n
  | 0, _ => rfl
  | n + 1, h => by
    show sp_cnt p n + (if p n then 1 else 0) = sp_cnt q n + (if q n then 1 else 0)
    rw [sp_cnt_cg (fun j hj => h j (by omega)), h n (by omega)]
theorem sp_cnt_ad {p : Nat → Bool} (a : Nat) : ∀ b, sp_cnt p (a + b) = sp_cnt p a + sp_cnt (fun y => p (a + y)) b
  | 0 => rfl
  | b + 1 => by
    show sp_cnt p (a + b) + (if p (a + b) then 1 else 0) = sp_cnt p a + (sp_cnt (fun y => p (a + y)) b + (if p (a + b) then 1 else 0))
    rw [sp_cnt_ad a b]; omega
theorem sp_c8 : ∀ A, A < 256 → sp_cnt (fun y => A.testBit y) 8 = sp_p8 A := by decide +kernel
theorem sp_pn_c : ∀ (n X : Nat), sp_pn n X = sp_cnt (fun y => X.testBit y) (8 * n)
  | 0, X => rfl
  | n + 1, X => by
    show sp_p8 (X % 256) + sp_pn n (X / 256) = _
    rw [show 8 * (n + 1) = 8 + 8 * n by omega, sp_cnt_ad, sp_pn_c n, ← sp_c8 (X % 256) (Nat.mod_lt _ (by decide))]
    congr 1
    · refine sp_cnt_cg (fun j hj => ?_)
      show (X % 2 ^ 8).testBit j = X.testBit j
      rw [Nat.testBit_mod_two_pow]; simp [hj]
    · refine sp_cnt_cg (fun j hj => ?_)
      show (X / 2 ^ 8).testBit j = X.testBit (8 + j)
      rw [Nat.testBit_div_two_pow, Nat.add_comm]
def sp_N (x : Int64) : Nat := x.toBitVec.toNat
theorem sp_N_lt (x : Int64) : sp_N x < 2 ^ 64 := x.toBitVec.isLt
theorem sp_N_add (x y : Int64) (h : sp_N x + sp_N y < 2 ^ 64) : sp_N (x + y) = sp_N x + sp_N y := by
  unfold sp_N at *
  rw [Int64.toBitVec_add, BitVec.toNat_add, Nat.mod_eq_of_lt h]
theorem sp_N_sub (x y : Int64) (h : sp_N y ≤ sp_N x) : sp_N (x - y) = sp_N x - sp_N y := by
  have h1 := sp_N_lt x
  unfold sp_N at *
  rw [Int64.toBitVec_sub, BitVec.toNat_sub]
  omega
theorem sp_N_and (x y : Int64) : sp_N (x &&& y) = sp_N x &&& sp_N y := by
  unfold sp_N
  rw [Int64.toBitVec_and, BitVec.toNat_and]
theorem sp_N_shr (x : Int64) (k : UInt64) (n : Nat) (hk : k.toNat = n) (hn : n < 64) : sp_N ((x.toUInt64 >>> k).toInt64) = sp_N x / 2 ^ n := by
  unfold sp_N
  show (x.toUInt64 >>> k).toNat = _
  rw [UInt64.toNat_shiftRight, hk, Nat.mod_eq_of_lt hn, Nat.shiftRight_eq_div_pow]
  rfl
theorem sp_N_i (x : Int64) : (x.toInt32 &&& 127) = Int32.ofNat (sp_N x % 128) := by
  apply Int32.toBitVec_inj.mp
  apply BitVec.eq_of_toNat_eq
  rw [Int32.toBitVec_and, BitVec.toNat_and]
  have e1 : x.toInt32.toBitVec.toNat = sp_N x % 2 ^ 32 := by
    show (x.toBitVec.signExtend 32).toNat = _
    rw [BitVec.signExtend_eq_setWidth_of_le _ (by decide), BitVec.toNat_setWidth]
    rfl
  have e2 : (127 : Int32).toBitVec.toNat = 2 ^ 7 - 1 := by decide
  have e3 : (Int32.ofNat (sp_N x % 128)).toBitVec.toNat = sp_N x % 128 := by
    show (BitVec.ofNat 32 (sp_N x % 128)).toNat = _
    rw [BitVec.toNat_ofNat]; omega
  rw [e1, e2, e3, Nat.and_two_pow_sub_one_eq_mod]
  omega
theorem sp_m85 : sp_N 6148914691236517205 = sp_mk 85 8 := by decide +kernel
theorem sp_m51 : sp_N 3689348814741910323 = sp_mk 51 8 := by decide +kernel
theorem sp_m15 : sp_N 1085102592571150095 = sp_mk 15 8 := by decide +kernel
theorem sp_k12_b : ∀ (n X : Nat), 255 * sp_k12 n X + 68 ≤ 68 * 256 ^ n
  | 0, X => by
    show 255 * ((sp_k1 0 X &&& 0) + (sp_k1 0 X / 4 &&& 0)) + 68 ≤ _
    rw [Nat.and_zero, Nat.and_zero]; decide
  | n + 1, X => by
    have hA := (sp_a4 (X % 256) (Nat.mod_lt _ (by decide))).2.1
    have ih := sp_k12_b n (X / 256)
    rw [sp_k12_s, Nat.pow_succ]; omega
theorem sp_k12_7 (X : Nat) : sp_k12 8 X < 2 ^ 63 := by
  have := sp_k12_b 8 X
  omega
theorem sp_bc_eq (x : Int64) : sp_bc x = nI (sp_cnt (fun y => (sp_N x).testBit y) 64) := by
  have hX := sp_N_lt x
  have s1 : sp_N (sp_c1 x) = sp_k1 8 (sp_N x) := by
    unfold sp_c1
    have e : sp_N ((x.toUInt64 >>> ((1 : Int32).toInt64.toUInt64 &&& Int64.toUInt64 63)).toInt64 &&& 6148914691236517205) = (sp_N x / 2 &&& sp_mk 85 8) := by
      rw [sp_N_and, sp_N_shr x _ 1 (by decide) (by decide), sp_m85]
    have hle : sp_N x / 2 &&& sp_mk 85 8 ≤ sp_N x / 2 := Nat.and_le_left
    rw [sp_N_sub _ _ (by rw [e]; omega), e]
    rfl
  have s2 : sp_N (sp_c2 (sp_c1 x)) = sp_k12 8 (sp_N x) := by
    unfold sp_c2
    generalize sp_c1 x = y at s1
    have ea : sp_N (y &&& 3689348814741910323) = (sp_N y &&& sp_mk 51 8) := by rw [sp_N_and, sp_m51]
    have eb : sp_N ((y.toUInt64 >>> ((2 : Int32).toInt64.toUInt64 &&& Int64.toUInt64 63)).toInt64 &&& 3689348814741910323) = (sp_N y / 4 &&& sp_mk 51 8) := by
      rw [sp_N_and, sp_N_shr y _ 2 (by decide) (by decide), sp_m51]
    have hk : (sp_N y &&& sp_mk 51 8) + (sp_N y / 4 &&& sp_mk 51 8) = sp_k12 8 (sp_N x) := by rw [s1]; rfl
    have hl := sp_k12_7 (sp_N x)
    rw [sp_N_add _ _ (by rw [ea, eb, hk]; omega), ea, eb, hk]
  have s3 : sp_N (sp_c3 (sp_c2 (sp_c1 x))) = sp_zz 8 (sp_N x) := by
    unfold sp_c3
    generalize sp_c2 (sp_c1 x) = y at s2
    have hl := sp_k12_7 (sp_N x)
    have eb := sp_N_shr y ((4 : Int32).toInt64.toUInt64 &&& Int64.toUInt64 63) 4 (by decide) (by decide)
    rw [sp_N_and, sp_N_add _ _ (by rw [eb, s2]; omega), eb, s2, sp_m15, ← sp_k3_z]
    rfl
  obtain ⟨f1, f2, f3, f4, f5⟩ := sp_fold (sp_N x)
  have s4 : sp_N (sp_c4 (sp_c3 (sp_c2 (sp_c1 x)))) = sp_zz 8 (sp_N x) + sp_zz 8 (sp_N x) / 256 := by
    unfold sp_c4
    generalize sp_c3 (sp_c2 (sp_c1 x)) = y at s3
    have eb := sp_N_shr y ((8 : Int32).toInt64.toUInt64 &&& Int64.toUInt64 63) 8 (by decide) (by decide)
    rw [sp_N_add _ _ (by rw [eb, s3]; omega), eb, s3]
  generalize sp_zz 8 (sp_N x) + sp_zz 8 (sp_N x) / 256 = a at *
  have s5 : sp_N (sp_c5 (sp_c4 (sp_c3 (sp_c2 (sp_c1 x))))) = a + a / 65536 := by
    unfold sp_c5
    generalize sp_c4 (sp_c3 (sp_c2 (sp_c1 x))) = y at s4
    have eb := sp_N_shr y ((16 : Int32).toInt64.toUInt64 &&& Int64.toUInt64 63) 16 (by decide) (by decide)
    rw [sp_N_add _ _ (by rw [eb, s4]; omega), eb, s4]
  generalize a + a / 65536 = b at *
  have s6 : sp_N (sp_c6 (sp_c5 (sp_c4 (sp_c3 (sp_c2 (sp_c1 x)))))) = b + b / 4294967296 := by
    unfold sp_c6
    generalize sp_c5 (sp_c4 (sp_c3 (sp_c2 (sp_c1 x)))) = y at s5
    have eb := sp_N_shr y ((32 : Int32).toInt64.toUInt64 &&& Int64.toUInt64 63) 32 (by decide) (by decide)
    rw [sp_N_add _ _ (by rw [eb, s5]; omega), eb, s5]
  unfold sp_bc
  rw [sp_N_i, s6, f5, sp_pn_c]
  rfl

theorem sp_N_bit (x : Int64) (y : Nat) : (sp_N x).testBit y = x.toBitVec.getLsbD y := rfl
theorem sp_clr (s : Int64) (y j : Nat) (hy : y < 64) : (s &&& (((1 : Int64) <<< Int64.ofNat y) ^^^ (-1))).toBitVec.getLsbD j = (s.toBitVec.getLsbD j && !decide (j = y)) := by
  rw [Int64.toBitVec_and, Int64.toBitVec_xor, sp_bt3 1 y hy, BitVec.getLsbD_and, BitVec.getLsbD_xor]
  by_cases hj : j < 64
  · have e1 : ((1 : Int64).toBitVec <<< y).getLsbD j = decide (j = y) := by
      rw [BitVec.getLsbD_shiftLeft]
      have e0 : (1 : Int64).toBitVec = 1#64 := rfl
      rw [e0, BitVec.getLsbD_one]
      by_cases e : j = y
      · subst e; simp [hj]
      · by_cases e2 : j < y
        · simp [hj, e2, e]
        · have : ¬ (j - y = 0) := by omega
          simp [hj, e2, e, this]
    have e2 : (-1 : Int64).toBitVec.getLsbD j = true := by
      have e0 : (-1 : Int64).toBitVec = BitVec.allOnes 64 := by decide
      rw [e0, BitVec.getLsbD_allOnes]; simp [hj]
    rw [e1, e2]
    cases decide (j = y) <;> rfl
  · have : s.toBitVec.getLsbD j = false := BitVec.getLsbD_of_ge _ _ (by omega)
    rw [this]; rfl
theorem sp_pop_nt (v : Nat → Int32) : ∀ z, sp_cnt (fun y => (sp_N (sp_nt v z ^^^ (-1))).testBit y) 64 + sp_pc v z = 64
  | 0 => by
    show sp_cnt (fun y => (sp_N ((0 : Int64) ^^^ (-1))).testBit y) 64 + 0 = 64
    decide +kernel
  | z + 1 => by
    have ih := sp_pop_nt v z
    by_cases hn : sp_num (v z) = true
    · obtain ⟨y, hy, hv, -⟩ := sp_num_ex hn
      by_cases hb : (sp_nt v z ^^^ (-1)) >>> ((nI y).toInt64 &&& 63) &&& 1 = 1
      · obtain ⟨e1, e2⟩ := sp_pc_y hn hy hv hb
        rw [e1, e2, sp_ofI y hy]
        rw [sp_ofI y hy] at hb
        have hbit := (sp_bt4 _ y hy).mp hb
        generalize sp_nt v z ^^^ (-1) = s at ih hbit
        have hu := sp_cnt_up (p := fun j => (sp_N (s &&& (((1 : Int64) <<< Int64.ofNat y) ^^^ (-1)))).testBit j) (q := fun j => (sp_N s).testBit j) (v := y) (by
          show (sp_N _).testBit y = false
          rw [sp_N_bit, sp_clr s y y hy]; simp) hbit (fun j hj => by
          show (sp_N s).testBit j = (sp_N _).testBit j
          rw [sp_N_bit, sp_N_bit, sp_clr s y j hy]; simp [hj]) (n := 64)
        rw [if_pos hy] at hu
        omega
      · obtain ⟨e1, e2⟩ := sp_pc_s hn hy hv hb
        rw [e1, e2]; exact ih
    · obtain ⟨e1, e2⟩ := sp_pc_n (v := v) (i := z) (by simpa using hn)
      rw [e1, e2]; exact ih
theorem sp_lacks (v : Nat → Int32) (z : Nat) : sp_bc (sp_nt v z ^^^ (-1)) = nI (64 - sp_pc v z) := by
  rw [sp_bc_eq]
  have := sp_pop_nt v z
  congr 1
  omega
/-! the pruned search of a mending swap finds what the whole search finds -/
theorem sp_ct_0 {p : Nat → Bool} : ∀ {n : Nat}, sp_ct p n = 0 ↔ ∀ q, q < n → p q = false
  | 0 => ⟨fun _ q hq => absurd hq (by omega), fun _ => rfl⟩
  | n + 1 => by
    have ih := sp_ct_0 (p := p) (n := n)
    show sp_ct p n + pm_bl (p n) = 0 ↔ _
    constructor
    · intro h q hq
      by_cases e : q = n
      · subst e
        cases hp : p q with
        | false => rfl
        | true => rw [hp] at h; exact absurd h (by show ¬ (_ + 1 = 0); omega)
      · exact ih.mp (by omega) q (by omega)
    · intro h
      rw [ih.mpr (fun q hq => h q (by omega)), h n (by omega)]; rfl
theorem sp_ct_2 {p : Nat → Bool} {a b : Nat} : ∀ {n : Nat}, (∀ q, q < n → p q = true → q = a ∨ q = b) → sp_ct p n ≤ (if a < n then 1 else 0) + (if b < n then 1 else 0)
  | 0, _ => Nat.zero_le _
  | n + 1, h => by
    have ih := sp_ct_2 (p := p) (a := a) (b := b) (n := n) (fun q hq hp => h q (by omega) hp)
    have hb := pm_bl_le (p n)
    show sp_ct p n + pm_bl (p n) ≤ _
    have m1 : (if a < n then 1 else 0) ≤ (if a < n + 1 then 1 else 0) := by split <;> split <;> omega
    have m2 : (if b < n then 1 else 0) ≤ (if b < n + 1 then 1 else 0) := by split <;> split <;> omega
    cases hp : p n with
    | false => show sp_ct p n + 0 ≤ _; omega
    | true =>
      show sp_ct p n + 1 ≤ _
      rcases h n (by omega) hp with e | e
      · subst e
        rw [if_neg (Nat.lt_irrefl _)] at ih m1
        rw [if_pos (show n < n + 1 by omega)]
        omega
      · subst e
        rw [if_neg (Nat.lt_irrefl _)] at ih m2
        rw [if_pos (show n < n + 1 by omega)]
        omega
def sp_qi (ord i : Nat) : Nat := if ord = 2 then i - i % 2 + 1 else i
theorem sp_isM_q {ord : Nat} {v : Nat → Int32} {z i : Nat} : sp_isM ord v z i = sp_mp ord v z (sp_qi ord i) := by
  unfold sp_isM sp_mp sp_qi
  by_cases e : ord = 2
  · rw [if_pos e, if_pos e, if_pos e, show (i - i % 2 + 1) % 2 = 1 by omega, show i - i % 2 + 1 - 1 = i - i % 2 by omega]; rfl
  · rw [if_neg e, if_neg e, if_neg e]
theorem sp_sw_ne {v : Nat → Int32} {i j q : Nat} (h1 : q ≠ i) (h2 : q ≠ j) : sp_sw v i j q = v q := by
  simp only [sp_sw, upd]
  rw [if_neg h2, if_neg h1]
theorem sp_mp_sw {ord : Nat} {v : Nat → Int32} {z i j q : Nat} (h1 : q ≠ sp_qi ord i) (h2 : q ≠ sp_qi ord j) : sp_mp ord (sp_sw v i j) z q = sp_mp ord v z q := by
  unfold sp_mp
  unfold sp_qi at h1 h2
  by_cases e : ord = 2
  · rw [if_pos e] at h1 h2
    rw [if_pos e, if_pos e]
    by_cases eo : q % 2 = 1
    · unfold sp_m2
      rw [sp_sw_ne (q := q - 1) (by omega) (by omega), sp_sw_ne (q := q - 1 + 1) (by omega) (by omega)]
    · have : (q % 2 == 1) = false := by simp [eo]
      rw [this, Bool.false_and, Bool.false_and]
  · rw [if_neg e] at h1 h2
    rw [if_neg e, if_neg e]
    unfold sp_m1
    rw [sp_sw_ne h1 h2]
theorem sp_mend_2 {ord : Nat} {v : Nat → Int32} {z i j : Nat} (h : sp_mend ord v z i j = true) : ∀ q, q < z → sp_mp ord v z q = true → q = sp_qi ord i ∨ q = sp_qi ord j := by
  intro q hq hp
  have h0 : sp_ct (sp_mp ord (sp_sw v i j) z) z = 0 := by simpa [sp_mend, sp_mc] using h
  by_cases e1 : q = sp_qi ord i
  · exact Or.inl e1
  · by_cases e2 : q = sp_qi ord j
    · exact Or.inr e2
    · have := sp_ct_0.mp h0 q hq
      rw [sp_mp_sw e1 e2, hp] at this; cases this
theorem sp_mend_le {ord : Nat} {v : Nat → Int32} {z i j : Nat} (h : sp_mend ord v z i j = true) : sp_mc ord v z ≤ 2 := by
  have := sp_ct_2 (sp_mend_2 h)
  unfold sp_mc
  have m1 : (if sp_qi ord i < z then 1 else 0) ≤ 1 := by split <;> omega
  have m2 : (if sp_qi ord j < z then 1 else 0) ≤ 1 := by split <;> omega
  omega
theorem sp_mX_eq {ord : Nat} {v : Nat → Int32} {z : Nat} (h0 : sp_mc ord v z ≠ 0) : sp_mX ord v z = sp_mend ord v z := by
  funext i j
  unfold sp_mX
  cases hm : sp_mend ord v z i j with
  | false => simp
  | true =>
    have hex : ∃ q, q < z ∧ sp_mp ord v z q = true := Decidable.byContradiction (fun hn => h0 (sp_ct_0.mpr (fun q hq => by
      cases hp : sp_mp ord v z q with
      | false => rfl
      | true => exact absurd ⟨q, hq, hp⟩ hn)))
    obtain ⟨q, hq, hp⟩ := hex
    rw [sp_isM_q, sp_isM_q]
    rcases sp_mend_2 hm q hq hp with e | e
    · rw [← e, hp]; simp
    · rw [← e, hp]; simp
theorem sp_fd_f {p : Nat → Bool} (h : ∀ q, p q = false) : ∀ d i, sp_fd p d i = none
  | 0, _ => rfl
  | d + 1, i => by
    show (if p i then some i else sp_fd p d (i + 1)) = none
    rw [h i, sp_fd_f h d]; rfl
theorem sp_f2_f {p : Nat → Nat → Bool} (h : ∀ i j, p i j = false) (z : Nat) : ∀ d i, sp_f2 p z d i = none
  | 0, _ => rfl
  | d + 1, i => by
    show (match sp_fd (p i) (z - (i + 1)) (i + 1) with | some j => some (i, j) | none => sp_f2 p z d (i + 1)) = none
    rw [sp_fd_f (h i), sp_f2_f h z d]
theorem sp_swapped {ord : Nat} {v : Nat → Int32} {z : Nat} : (if sp_mc ord v z = 0 then (0 : Int32) else if 2 < sp_mc ord v z then -9 else sp_msx (sp_f2 (sp_mX ord v z) z z 0)) = if sp_mc ord v z = 0 then 0 else sp_msx (sp_f2 (sp_mend ord v z) z z 0) := by
  by_cases e : sp_mc ord v z = 0
  · rw [if_pos e, if_pos e]
  · rw [if_neg e, if_neg e, sp_mX_eq e]
    by_cases e2 : 2 < sp_mc ord v z
    · rw [if_pos e2, sp_f2_f (fun i j => by
        cases hm : sp_mend ord v z i j with
        | false => rfl
        | true => have := sp_mend_le hm; omega)]
      rfl
    · rw [if_neg e2]
/-! two rows that agree in their places -/
theorem sp_nt_cong {v w : Nat → Int32} : ∀ {z : Nat}, (∀ q, q < z → v q = w q) → sp_nt v z = sp_nt w z
  | 0, _ => rfl
  | z + 1, h => by
    show (if sp_num (v z) then sp_nt v z ||| ((1 : Int64) <<< ((v z).toInt64 &&& 63)) else sp_nt v z) = if sp_num (w z) then sp_nt w z ||| ((1 : Int64) <<< ((w z).toInt64 &&& 63)) else sp_nt w z
    rw [sp_nt_cong (fun q hq => h q (by omega)), h z (by omega)]
theorem sp_pc_cong {v w : Nat → Int32} : ∀ {z : Nat}, (∀ q, q < z → v q = w q) → sp_pc v z = sp_pc w z
  | 0, _ => rfl
  | z + 1, h => by
    show sp_pc v z + pm_bl (sp_num (v z) && sp_hb (sp_nt v z ^^^ (-1)) (v z)) = sp_pc w z + pm_bl (sp_num (w z) && sp_hb (sp_nt w z ^^^ (-1)) (w z))
    rw [sp_pc_cong (fun q hq => h q (by omega)), h z (by omega), sp_nt_cong (fun q hq => h q (by omega))]
theorem sp_cv_cong {v w : Nat → Int32} {j : Nat} : ∀ {z : Nat}, (∀ q, q < z → v q = w q) → sp_cv v j z = sp_cv w j z
  | 0, _ => rfl
  | z + 1, h => by
    show sp_cv v j z + (if v z = nI j then 1 else 0) = sp_cv w j z + (if w z = nI j then 1 else 0)
    rw [sp_cv_cong (fun q hq => h q (by omega)), h z (by omega)]
theorem sp_cn_cong {v w : Nat → Int32} : ∀ {z : Nat}, (∀ q, q < z → v q = w q) → sp_cn v z = sp_cn w z
  | 0, _ => rfl
  | z + 1, h => by
    show sp_cn v z + pm_bl (sp_vb v z) = sp_cn w z + pm_bl (sp_vb w z)
    unfold sp_vb
    rw [sp_cn_cong (fun q hq => h q (by omega)), h z (by omega)]
theorem sp_sw_cg9 {v w : Nat → Int32} {i j : Nat} (hi : i < 64) (hj : j < 64) (h : ∀ q, q < 64 → v q = w q) : ∀ q, q < 64 → sp_sw v i j q = sp_sw w i j q := fun q hq => by
  simp only [sp_sw, upd]
  rw [h i hi, h j hj, h q hq]
theorem sp_fd_cong {p p' : Nat → Bool} : ∀ (d i : Nat), (∀ q, i ≤ q → q < i + d → p q = p' q) → sp_fd p d i = sp_fd p' d i
  | 0, _, _ => rfl
  | d + 1, i, h => by
    show (if p i then some i else sp_fd p d (i + 1)) = if p' i then some i else sp_fd p' d (i + 1)
    rw [h i (by omega) (by omega), sp_fd_cong d (i + 1) (fun q h1 h2 => h q (by omega) (by omega))]
theorem sp_f2_cong {p p' : Nat → Nat → Bool} {z : Nat} (h : ∀ i j, i < z → j < z → p i j = p' i j) : ∀ (d i : Nat), i + d ≤ z → sp_f2 p z d i = sp_f2 p' z d i
  | 0, _, _ => rfl
  | d + 1, i, hd => by
    show (match sp_fd (p i) (z - (i + 1)) (i + 1) with | some j => some (i, j) | none => sp_f2 p z d (i + 1)) = match sp_fd (p' i) (z - (i + 1)) (i + 1) with | some j => some (i, j) | none => sp_f2 p' z d (i + 1)
    rw [sp_fd_cong (p := p i) (p' := p' i) _ _ (fun q h1 h2 => h i q (by omega) (by omega)), sp_f2_cong h d (i + 1) (by omega)]
theorem sp_mend_cong {o z : Nat} {v w : Nat → Int32} (hz : z ≤ 64) (h : ∀ q, q < 64 → v q = w q) : sp_f2 (sp_mend o v z) z z 0 = sp_f2 (sp_mend o w z) z z 0 := sp_f2_cong (fun i j hi hj => by
  unfold sp_mend
  rw [sp_mc_cong hz (sp_sw_cg9 (by omega) (by omega) h)]) z 0 (by omega)
theorem sp_df_cong {f g : Nat → Int32} : ∀ {n : Nat} {h : Int64}, (∀ q, q < n → f q = g q) → sp_df f n h = sp_df g n h
  | 0, _, _ => rfl
  | n + 1, h, e => by
    rw [sp_df_s, sp_df_s, sp_df_cong (fun q hq => e q (by omega)), e n (by omega)]
theorem sp_df_add (f : Nat → Int32) (a : Nat) : ∀ (b : Nat) (h : Int64), sp_df f (a + b) h = sp_df (fun q => f (a + q)) b (sp_df f a h)
  | 0, h => rfl
  | b + 1, h => by
    rw [sp_df_s, ← sp_df_add f a b h]; rfl
theorem sp_dg_df {X : Nat → Nat → Int32} {f : Nat → Int32} (hX : ∀ p, p < 8 → ∀ j, j < 6 → X (21 + 2 * p) j = f (6 * p + j)) : ∀ (p : Nat) (h : Int64), p ≤ 8 → sp_dg X p h = sp_df f (6 * p) h
  | 0, h, _ => rfl
  | p + 1, h, hp => by
    show sp_df (X (21 + 2 * p)) 6 (sp_dg X p h) = sp_df f (6 * (p + 1)) h
    rw [sp_dg_df hX p h (by omega), show 6 * (p + 1) = 6 * p + 6 by omega, sp_df_add]
    exact sp_df_cong (fun q hq => hX p (by omega) q hq)
theorem sp_dr_cong {rz : Nat → Option Nat} {u w : Nat → Nat → Int32} (hz : ∀ r, r < 4 → ∀ z, rz r = some z → z ≤ 64) (h : ∀ r, r < 4 → ∀ q, q < 64 → u r q = w r q) : ∀ (r : Nat) (x : Int64), r ≤ 4 → sp_dr rz u r x = sp_dr rz w r x
  | 0, x, _ => rfl
  | r + 1, x, hr => by
    have ih := sp_dr_cong hz h r x (by omega)
    cases e : rz r with
    | none => rw [sp_dr_n e, sp_dr_n e, ih]
    | some z =>
      have := hz r (by omega) z e
      rw [sp_dr_s e, sp_dr_s e, ih]
      exact sp_df_cong (fun q hq => h r (by omega) q (by omega))
theorem sp_old_add (g : Nat → Nat) (a : Nat) : ∀ b, sp_old g (a + b) = sp_old g a + sp_old (fun q => g (a + q)) b
  | 0 => rfl
  | b + 1 => by
    show sp_old g (a + b) + sp_o (g (a + b)) = sp_old g a + (sp_old (fun q => g (a + q)) b + sp_o (g (a + b)))
    rw [sp_old_add g a b]; omega
theorem sp_old_cg9 {g k : Nat → Nat} : ∀ {n : Nat}, (∀ q, q < n → g q = k q) → sp_old g n = sp_old k n
  | 0, _ => rfl
  | n + 1, h => by
    show sp_old g n + sp_o (g n) = sp_old k n + sp_o (k n)
    rw [sp_old_cg9 (fun q hq => h q (by omega)), h n (by omega)]
theorem sp_o8_old {g : Nat → Nat → Nat} {k : Nat → Nat} (h : ∀ p, p < 8 → ∀ j, j < 6 → g p j = k (6 * p + j)) : ∀ p, p ≤ 8 → sp_o8 g p = sp_old k (6 * p)
  | 0, _ => rfl
  | p + 1, hp => by
    show sp_o8 g p + sp_old (g p) 6 = sp_old k (6 * (p + 1))
    rw [sp_o8_old h p (by omega), show 6 * (p + 1) = 6 * p + 6 by omega, sp_old_add]
    congr 1
    exact sp_old_cg9 (fun q hq => h p (by omega) q hq)

