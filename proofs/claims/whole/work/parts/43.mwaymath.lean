/-! ways by acts: lists of acts that lead from a number to another -/
def sp_path (lt y : Nat) : List Nat → Nat → Prop
  | [], k => k = y
  | a :: Q, k => a < 9 ∧ lt / 2 ^ a % 2 = 1 ∧ sp_path lt y Q (sp_aft k a)
def sp_sum (f : Nat → Nat) : Nat → Nat
  | 0 => 0
  | n + 1 => sp_sum f n + f n
theorem sp_sum_cg {f g : Nat → Nat} : ∀ {n : Nat}, (∀ j, j < n → f j = g j) → sp_sum f n = sp_sum g n
  | 0, _ => rfl
  | n + 1, h => by
    show sp_sum f n + f n = sp_sum g n + g n
    rw [sp_sum_cg (fun j hj => h j (by omega)), h n (by omega)]
theorem sp_sum_up {f : Nat → Nat} {k v : Nat} : ∀ {n : Nat}, k < n → sp_sum (va_up f k v) n + f k = sp_sum f n + v
  | 0, h => absurd h (by omega)
  | n + 1, h => by
    show sp_sum (va_up f k v) n + va_up f k v n + f k = sp_sum f n + f n + v
    by_cases e : k = n
    · subst e
      rw [sp_sum_cg (f := va_up f k v) (g := f) (fun j hj => by simp [va_up, Nat.ne_of_lt hj])]
      simp [va_up]; omega
    · have := sp_sum_up (f := f) (k := k) (v := v) (n := n) (by omega)
      have e2 : va_up f k v n = f n := by simp [va_up, show ¬ n = k from fun z => e z.symm]
      omega
def m_inv (lt y : Nat) (fr : Nat → Nat) : Prop := (∀ k, k < 64 → fr k ≤ 1000) ∧ fr y = 0 ∧ ∀ k, k < 64 → fr k < 1000 → ∃ Q : List Nat, Q.length = fr k ∧ sp_path lt y Q k
def m_fix (lt : Nat) (fr : Nat → Nat) : Prop := ∀ k, k < 64 → ∀ a, a < 9 → lt / 2 ^ a % 2 = 1 → fr k ≤ fr (sp_aft k a) + 1
theorem m_inv_up {lt y : Nat} {fr : Nat → Nat} (h : m_inv lt y fr) (k a : Nat) (hk : k < 64) (ha : a < 9) (hb : lt / 2 ^ a % 2 = 1) (hl : fr (sp_aft k a) + 1 < fr k) : m_inv lt y (va_up fr k (fr (sp_aft k a) + 1)) := by
  obtain ⟨h1, h2, h3⟩ := h
  have hk1 := h1 k hk
  refine ⟨fun j hj => ?_, ?_, fun j hj hl2 => ?_⟩
  · by_cases e : j = k
    · simp [va_up, e]; omega
    · simp [va_up, e]; exact h1 j hj
  · by_cases e : y = k
    · subst e; omega
    · simp [va_up, e]; exact h2
  · by_cases e : j = k
    · subst e
      obtain ⟨Q, q1, q2⟩ := h3 (sp_aft j a) (sp_aft_lt j hj a ha) (by omega)
      refine ⟨a :: Q, ?_, ha, hb, q2⟩
      simp [va_up, q1]
    · have e2 : va_up fr k (fr (sp_aft k a) + 1) j = fr j := by simp [va_up, e]
      rw [e2] at hl2 ⊢
      exact h3 j hj hl2
theorem m_fr_le {lt y : Nat} {fr : Nat → Nat} (hi : m_inv lt y fr) (hf : m_fix lt fr) : ∀ (Q : List Nat) (k : Nat), k < 64 → sp_path lt y Q k → fr k ≤ Q.length
  | [], k, hk, hp => by
    have e : k = y := hp
    rw [e, hi.2.1]; omega
  | a :: Q, k, hk, hp => by
    obtain ⟨h1, h2, h3⟩ := hp
    have i1 := m_fr_le hi hf Q (sp_aft k a) (sp_aft_lt k hk a h1) h3
    have i2 := hf k hk a h1 h2
    simp only [List.length_cons]; omega
def sp_pb (lt : Nat) (fr : Nat → Nat) (k a : Nat) : Bool := decide (lt / 2 ^ a % 2 = 1 ∧ fr (sp_aft k a) + 1 = fr k)
def sp_ga (lt : Nat) (fr : Nat → Nat) (k : Nat) : Nat := (sp_fd (sp_pb lt fr k) 9 0).getD 0
def sp_gp (lt : Nat) (fr : Nat → Nat) : Nat → Nat → List Nat
  | 0, _ => []
  | n + 1, k => sp_ga lt fr k :: sp_gp lt fr n (sp_aft k (sp_ga lt fr k))
theorem sp_fd_some {p : Nat → Bool} : ∀ {d i j : Nat}, sp_fd p d i = some j → i ≤ j ∧ j < i + d ∧ p j = true ∧ ∀ q, i ≤ q → q < j → p q = false
  | 0, i, j, h => by cases h
  | d + 1, i, j, h => by
    have h : (if p i then some i else sp_fd p d (i + 1)) = some j := h
    by_cases e : p i = true
    · rw [if_pos e] at h
      obtain rfl : i = j := by simpa using h
      exact ⟨Nat.le_refl _, by omega, e, fun q h1 h2 => absurd h1 (by omega)⟩
    · rw [if_neg e] at h
      obtain ⟨a1, a2, a3, a4⟩ := sp_fd_some h
      refine ⟨by omega, by omega, a3, fun q h1 h2 => ?_⟩
      by_cases e2 : q = i
      · subst e2; simpa using e
      · exact a4 q (by omega) h2
theorem sp_fd_none {p : Nat → Bool} : ∀ {d i : Nat}, sp_fd p d i = none → ∀ q, i ≤ q → q < i + d → p q = false
  | 0, i, _ => fun q h1 h2 => absurd h1 (by omega)
  | d + 1, i, h => fun q h1 h2 => by
    have h : (if p i then some i else sp_fd p d (i + 1)) = none := h
    by_cases e : p i = true
    · rw [if_pos e] at h; cases h
    · rw [if_neg e] at h
      by_cases e2 : q = i
      · subst e2; simpa using e
      · exact sp_fd_none h q (by omega) (by omega)
theorem m_gb {lt y : Nat} {fr : Nat → Nat} (hi : m_inv lt y fr) (hf : m_fix lt fr) {k : Nat} (hk : k < 64) (h0 : 0 < fr k) (h1 : fr k < 1000) : sp_fd (sp_pb lt fr k) 9 0 = some (sp_ga lt fr k) ∧ sp_ga lt fr k < 9 ∧ lt / 2 ^ (sp_ga lt fr k) % 2 = 1 ∧ fr (sp_aft k (sp_ga lt fr k)) + 1 = fr k ∧ ∀ a, a < sp_ga lt fr k → sp_pb lt fr k a = false := by
  obtain ⟨Q, q1, q2⟩ := hi.2.2 k hk h1
  cases Q with
  | nil => simp at q1; omega
  | cons a Q =>
    obtain ⟨g1, g2, g3⟩ := q2
    have i1 := m_fr_le hi hf Q (sp_aft k a) (sp_aft_lt k hk a g1) g3
    have i2 := hf k hk a g1 g2
    simp only [List.length_cons] at q1
    have hp : sp_pb lt fr k a = true := by simp only [sp_pb, decide_eq_true_eq]; exact ⟨g2, by omega⟩
    cases hq : sp_fd (sp_pb lt fr k) 9 0 with
    | none => rw [sp_fd_none hq a (by omega) (by omega)] at hp; cases hp
    | some j =>
      have e : sp_ga lt fr k = j := by simp [sp_ga, hq]
      obtain ⟨b1, b2, b3, b4⟩ := sp_fd_some hq
      rw [e]
      simp only [sp_pb, decide_eq_true_eq] at b3
      exact ⟨rfl, by omega, b3.1, b3.2, fun a ha => b4 a (by omega) ha⟩
/-- the code of a list of acts -/
def sp_cd (c : Nat) : List Nat → Nat
  | [] => c
  | a :: Q => sp_cd (9 * c + a) Q
theorem sp_cd_app (a : Nat) : ∀ (Q : List Nat) (c : Nat), sp_cd c (Q ++ [a]) = 9 * sp_cd c Q + a
  | [], c => rfl
  | b :: Q, c => sp_cd_app a Q (9 * c + b)
theorem sp_cd_lt : ∀ (Q R : List Nat) (c d : Nat), Q.length = R.length → (∀ a, a ∈ Q → a < 9) → c < d → sp_cd c Q < sp_cd d R
  | [], [], c, d, _, _, h => h
  | [], b :: R, c, d, hl, _, _ => by simp at hl
  | a :: Q, [], c, d, hl, _, _ => by simp at hl
  | a :: Q, b :: R, c, d, hl, ha, h => by
    have := ha a (by simp)
    exact sp_cd_lt Q R (9 * c + a) (9 * d + b) (by simpa using hl) (fun x hx => ha x (by simp [hx])) (by omega)
theorem sp_cd_mo : ∀ (Q : List Nat) (c d : Nat), c ≤ d → sp_cd c Q ≤ sp_cd d Q
  | [], c, d, h => h
  | a :: Q, c, d, h => sp_cd_mo Q (9 * c + a) (9 * d + a) (by omega)
theorem sp_cd_in : ∀ (Q : List Nat) (c : Nat), (∀ a, a ∈ Q → a < 9) → c * 9 ^ Q.length ≤ sp_cd c Q ∧ sp_cd c Q < (c + 1) * 9 ^ Q.length
  | [], c, _ => by simp [sp_cd]
  | a :: Q, c, h => by
    have ha := h a (by simp)
    obtain ⟨i1, i2⟩ := sp_cd_in Q (9 * c + a) (fun x hx => h x (by simp [hx]))
    simp only [List.length_cons, Nat.pow_succ, sp_cd]
    have e1 : c * (9 ^ Q.length * 9) ≤ (9 * c + a) * 9 ^ Q.length := by
      rw [Nat.mul_comm (9 ^ Q.length) 9, ← Nat.mul_assoc]
      exact Nat.mul_le_mul_right _ (by omega)
    have e2 : (9 * c + a + 1) * 9 ^ Q.length ≤ (c + 1) * (9 ^ Q.length * 9) := by
      rw [Nat.mul_comm (9 ^ Q.length) 9, ← Nat.mul_assoc]
      exact Nat.mul_le_mul_right _ (by omega)
    omega
theorem sp_path_d {lt y : Nat} : ∀ {Q : List Nat} {k : Nat}, sp_path lt y Q k → ∀ a, a ∈ Q → a < 9
  | [], _, _ => fun a ha => by cases ha
  | b :: Q, k, h => fun a ha => by
    rcases List.mem_cons.mp ha with e | e
    · rw [e]; exact h.1
    · exact sp_path_d h.2.2 a e
theorem sp_cd_len {Q R : List Nat} (hQ : ∀ a, a ∈ Q → a < 9) (hR : ∀ a, a ∈ R → a < 9) (h : sp_cd 1 Q ≤ sp_cd 1 R) : Q.length ≤ R.length := by
  have a1 := (sp_cd_in Q 1 hQ).1
  have a2 := (sp_cd_in R 1 hR).2
  by_cases e : Q.length ≤ R.length
  · exact e
  · exfalso
    have : 9 ^ (R.length + 1) ≤ 9 ^ Q.length := Nat.pow_le_pow_right (by omega) (by omega)
    rw [Nat.pow_succ] at this
    omega
theorem sp_cd_inj : ∀ (Q R : List Nat) (c d : Nat), Q.length = R.length → (∀ a, a ∈ Q → a < 9) → (∀ a, a ∈ R → a < 9) → sp_cd c Q = sp_cd d R → c = d ∧ Q = R
  | [], [], c, d, _, _, _, h => ⟨h, rfl⟩
  | [], b :: R, c, d, hl, _, _, _ => by simp at hl
  | a :: Q, [], c, d, hl, _, _, _ => by simp at hl
  | a :: Q, b :: R, c, d, hl, hQ, hR, h => by
    obtain ⟨i1, i2⟩ := sp_cd_inj Q R (9 * c + a) (9 * d + b) (by simpa using hl) (fun x hx => hQ x (by simp [hx])) (fun x hx => hR x (by simp [hx])) h
    have := hQ a (by simp)
    have := hR b (by simp)
    have e : a = b := by omega
    exact ⟨by omega, by rw [e, i2]⟩
theorem sp_gp_len {lt : Nat} {fr : Nat → Nat} : ∀ (n k : Nat), (sp_gp lt fr n k).length = n
  | 0, _ => rfl
  | n + 1, k => by simp [sp_gp, sp_gp_len n]
theorem m_gp_le {lt y : Nat} {fr : Nat → Nat} (hi : m_inv lt y fr) (hf : m_fix lt fr) : ∀ (n k : Nat), k < 64 → fr k = n → n < 1000 → sp_path lt y (sp_gp lt fr n k) k ∧ ∀ (Q : List Nat) (c : Nat), Q.length = n → sp_path lt y Q k → sp_cd c (sp_gp lt fr n k) ≤ sp_cd c Q
  | 0, k, hk, hn, _ => by
    refine ⟨?_, fun Q c hl _ => ?_⟩
    · obtain ⟨Q, q1, q2⟩ := hi.2.2 k hk (by omega)
      cases Q with
      | nil => exact q2
      | cons a Q => simp at q1; omega
    · cases Q with
      | nil => exact Nat.le_refl _
      | cons a Q => simp at hl
  | n + 1, k, hk, hn, h1 => by
    obtain ⟨_, g1, g2, g3, g4⟩ := m_gb hi hf hk (by omega) (by omega)
    have g5 := sp_aft_lt k hk _ g1
    obtain ⟨i1, i2⟩ := m_gp_le hi hf n (sp_aft k (sp_ga lt fr k)) g5 (by omega) (by omega)
    refine ⟨⟨g1, g2, i1⟩, fun Q c hl hp => ?_⟩
    cases Q with
    | nil => simp at hl
    | cons a Q =>
      obtain ⟨p1, p2, p3⟩ := hp
      have hl2 : Q.length = n := by simpa using hl
      clear hl
      have j1 := m_fr_le hi hf Q (sp_aft k a) (sp_aft_lt k hk a p1) p3
      have j2 := hf k hk a p1 p2
      have hpb : sp_pb lt fr k a = true := by simp only [sp_pb, decide_eq_true_eq]; exact ⟨p2, by omega⟩
      have hle : sp_ga lt fr k ≤ a := by
        by_cases e : a < sp_ga lt fr k
        · rw [g4 a e] at hpb; cases hpb
        · omega
      show sp_cd (9 * c + sp_ga lt fr k) _ ≤ sp_cd (9 * c + a) Q
      by_cases e : a = sp_ga lt fr k
      · subst e; exact i2 Q _ hl2 p3
      · exact Nat.le_of_lt (sp_cd_lt _ _ _ _ (by rw [sp_gp_len, hl2]) (sp_path_d i1) (by omega))
/-! the meeting in the order of the codes -/
def sp_cnt (p : Nat → Bool) : Nat → Nat
  | 0 => 0
  | n + 1 => sp_cnt p n + (if p n then 1 else 0)
theorem sp_cnt_le {p : Nat → Bool} : ∀ n, sp_cnt p n ≤ n
  | 0 => Nat.le_refl _
  | n + 1 => by
    have := sp_cnt_le (p := p) n
    show sp_cnt p n + (if p n then 1 else 0) ≤ n + 1
    split <;> omega
theorem sp_cnt_lt {p : Nat → Bool} {v : Nat} (hp : p v = false) : ∀ {n}, v < n → sp_cnt p n < n
  | 0, h => absurd h (by omega)
  | n + 1, h => by
    show sp_cnt p n + (if p n then 1 else 0) < n + 1
    have := sp_cnt_le (p := p) n
    by_cases e : v = n
    · subst e; rw [hp]; simp; omega
    · have := sp_cnt_lt hp (n := n) (by omega)
      split <;> omega
theorem sp_cnt_up {p q : Nat → Bool} {v : Nat} (hp : p v = false) (hq : q v = true) (he : ∀ j, j ≠ v → q j = p j) : ∀ {n}, sp_cnt q n = sp_cnt p n + (if v < n then 1 else 0)
  | 0 => rfl
  | n + 1 => by
    show sp_cnt q n + (if q n then 1 else 0) = sp_cnt p n + (if p n then 1 else 0) + (if v < n + 1 then 1 else 0)
    rw [sp_cnt_up hp hq he (n := n)]
    by_cases e : n = v
    · subst e; simp [hp, hq]
    · rw [he n e]
      by_cases e2 : v < n
      · rw [if_pos e2, if_pos (show v < n + 1 by omega)]; omega
      · rw [if_neg e2, if_neg (show ¬ v < n + 1 by omega)]; omega
/-- what holds of the met numbers while the nx-th is at act a -/
def sp_bi (x lt : Nat) (s : sp_St) (P : Nat → List Nat) (nx a : Nat) : Prop :=
  (s.1 ≤ 64 ∧ 0 < s.1 ∧ sp_cnt (fun v => (s.2.2.1 v).isSome) 64 = s.1 ∧ s.2.1 0 = x ∧ P x = [] ∧ s.2.2.1 x = some x) ∧
  (∀ j, j < s.1 → s.2.1 j < 64 ∧ (s.2.2.1 (s.2.1 j)).isSome = true ∧ (P (s.2.1 j)).length ≤ j ∧ ∀ b, b ∈ P (s.2.1 j) → b < 9) ∧
  (∀ v, v < 64 → (s.2.2.1 v).isSome = true → ∃ j, j < s.1 ∧ s.2.1 j = v) ∧
  (∀ j, j < s.1 → 0 < j → ∃ i, i < j ∧ s.2.2.1 (s.2.1 j) = some (s.2.1 i) ∧ s.2.2.2 (s.2.1 j) < 9 ∧ lt / 2 ^ (s.2.2.2 (s.2.1 j)) % 2 = 1 ∧ sp_aft (s.2.1 i) (s.2.2.2 (s.2.1 j)) = s.2.1 j ∧ P (s.2.1 j) = P (s.2.1 i) ++ [s.2.2.2 (s.2.1 j)]) ∧
  (∀ i j, i < j → j < s.1 → sp_cd 1 (P (s.2.1 i)) < sp_cd 1 (P (s.2.1 j))) ∧
  (∀ i, i < s.1 → ∀ b, b < 9 → lt / 2 ^ b % 2 = 1 → (i < nx ∨ (i = nx ∧ b < a)) → (s.2.2.1 (sp_aft (s.2.1 i) b)).isSome = true ∧ sp_cd 1 (P (sp_aft (s.2.1 i) b)) ≤ 9 * sp_cd 1 (P (s.2.1 i)) + b) ∧
  (nx < s.1 → ∀ j, j < s.1 → sp_cd 1 (P (s.2.1 j)) < 9 * sp_cd 1 (P (s.2.1 nx)) + a)
theorem sp_cd_pos : ∀ (Q : List Nat) (c : Nat), 0 < c → 0 < sp_cd c Q
  | [], c, h => h
  | a :: Q, c, h => sp_cd_pos Q (9 * c + a) (by omega)
theorem sp_bi_ne {x lt : Nat} {s : sp_St} {P : Nat → List Nat} {nx a : Nat} (h : sp_bi x lt s P nx a) {i j : Nat} (hi : i < s.1) (hj : j < s.1) (e : s.2.1 i = s.2.1 j) : i = j := by
  obtain ⟨-, -, -, -, h5, -, -⟩ := h
  rcases Nat.lt_trichotomy i j with g | g | g
  · have := h5 i j g hj; rw [e] at this; omega
  · exact g
  · have := h5 j i g hi; rw [e] at this; omega
theorem sp_bi_1 {x lt : Nat} {s : sp_St} {P : Nat → List Nat} {nx a : Nat} (h : sp_bi x lt s P nx a) (hx : x < 64) (hn : nx < s.1) (ha : a < 9) : ∃ P1, sp_bi x lt (sp_w1 lt (s.2.1 nx) s a) P1 nx (a + 1) ∧ (sp_w1 lt (s.2.1 nx) s a).2.1 nx = s.2.1 nx ∧ nx < (sp_w1 lt (s.2.1 nx) s a).1 := by
  have h0 := h
  obtain ⟨⟨a1, a2, a3, a4, a5, a6⟩, h2, h3, h4, h5, h6, h7⟩ := h
  have hw := (h2 nx hn).1
  have ht := sp_aft_lt (s.2.1 nx) hw a ha
  generalize htd : sp_aft (s.2.1 nx) a = t at ht
  unfold sp_w1
  rw [htd]
  by_cases hq : lt / 2 ^ a % 2 = 1 ∧ s.2.2.1 t = none ∧ s.1 < 64
  · rw [if_pos hq]
    obtain ⟨q1, q2, q3⟩ := hq
    have nt : ∀ j, j < s.1 → s.2.1 j ≠ t := fun j hj e => by
      have := (h2 j hj).2.1
      rw [e, q2] at this; cases this
    have ntx : x ≠ t := fun e => by rw [e, q2] at a6; cases a6
    refine ⟨va_up P t (P (s.2.1 nx) ++ [a]), ?_, by show va_up s.2.1 s.1 t nx = _; simp [va_up, Nat.ne_of_lt hn], by show nx < s.1 + 1; omega⟩
    have ew : ∀ j, j < s.1 → va_up s.2.1 s.1 t j = s.2.1 j := fun j hj => by simp [va_up, Nat.ne_of_lt hj]
    have ewn : va_up s.2.1 s.1 t s.1 = t := by simp [va_up]
    have eP : ∀ v, v ≠ t → va_up P t (P (s.2.1 nx) ++ [a]) v = P v := fun v hv => by simp [va_up, hv]
    have ePt : va_up P t (P (s.2.1 nx) ++ [a]) t = P (s.2.1 nx) ++ [a] := by simp [va_up]
    have eb : ∀ v, v ≠ t → va_up s.2.2.1 t (some (s.2.1 nx)) v = s.2.2.1 v := fun v hv => by simp [va_up, hv]
    have ebt : va_up s.2.2.1 t (some (s.2.1 nx)) t = some (s.2.1 nx) := by simp [va_up]
    have em : ∀ v, v ≠ t → va_up s.2.2.2 t a v = s.2.2.2 v := fun v hv => by simp [va_up, hv]
    have emt : va_up s.2.2.2 t a t = a := by simp [va_up]
    refine ⟨⟨by show s.1 + 1 ≤ 64; omega, by show 0 < s.1 + 1; omega, ?_, ?_, ?_, ?_⟩, ?_, ?_, ?_, ?_, ?_, ?_⟩
    · show sp_cnt (fun v => (va_up s.2.2.1 t (some (s.2.1 nx)) v).isSome) 64 = s.1 + 1
      rw [sp_cnt_up (p := fun v => (s.2.2.1 v).isSome) (v := t) (by simp [q2]) (by simp [ebt]) (fun j hj => by simp only [eb j hj]), a3, if_pos ht]
    · show va_up s.2.1 s.1 t 0 = x
      rw [ew 0 a2]; exact a4
    · rw [eP x ntx]; exact a5
    · show va_up s.2.2.1 t (some (s.2.1 nx)) x = some x
      rw [eb x ntx]; exact a6
    · intro j hj
      show va_up s.2.1 s.1 t j < 64 ∧ (va_up s.2.2.1 t (some (s.2.1 nx)) (va_up s.2.1 s.1 t j)).isSome = true ∧ (va_up P t (P (s.2.1 nx) ++ [a]) (va_up s.2.1 s.1 t j)).length ≤ j ∧ ∀ b, b ∈ va_up P t (P (s.2.1 nx) ++ [a]) (va_up s.2.1 s.1 t j) → b < 9
      by_cases e : j = s.1
      · subst e
        rw [ewn, ePt, ebt]
        obtain ⟨b1, b2, b3, b4⟩ := h2 nx hn
        refine ⟨ht, rfl, by simp; omega, fun b hb => ?_⟩
        rcases List.mem_append.mp hb with g | g
        · exact b4 b g
        · simp at g; omega
      · have hj : j < s.1 := by have : j < s.1 + 1 := hj; omega
        rw [ew j hj, eP _ (nt j hj), eb _ (nt j hj)]
        exact h2 j hj
    · intro v hv hs
      show ∃ j, j < s.1 + 1 ∧ va_up s.2.1 s.1 t j = v
      by_cases e : v = t
      · exact ⟨s.1, by omega, by rw [ewn, e]⟩
      · have hs : (va_up s.2.2.1 t (some (s.2.1 nx)) v).isSome = true := hs
        rw [eb v e] at hs
        obtain ⟨j, j1, j2⟩ := h3 v hv hs
        exact ⟨j, by omega, by rw [ew j j1, j2]⟩
    · intro j hj h0j
      show ∃ i, i < j ∧ va_up s.2.2.1 t (some (s.2.1 nx)) (va_up s.2.1 s.1 t j) = some (va_up s.2.1 s.1 t i) ∧ va_up s.2.2.2 t a (va_up s.2.1 s.1 t j) < 9 ∧ lt / 2 ^ (va_up s.2.2.2 t a (va_up s.2.1 s.1 t j)) % 2 = 1 ∧ sp_aft (va_up s.2.1 s.1 t i) (va_up s.2.2.2 t a (va_up s.2.1 s.1 t j)) = va_up s.2.1 s.1 t j ∧ va_up P t (P (s.2.1 nx) ++ [a]) (va_up s.2.1 s.1 t j) = va_up P t (P (s.2.1 nx) ++ [a]) (va_up s.2.1 s.1 t i) ++ [va_up s.2.2.2 t a (va_up s.2.1 s.1 t j)]
      by_cases e : j = s.1
      · subst e
        refine ⟨nx, hn, ?_⟩
        rw [ewn, ePt, ebt, emt, ew nx hn, eP _ (nt nx hn)]
        exact ⟨rfl, ha, q1, htd, rfl⟩
      · have hj : j < s.1 := by have : j < s.1 + 1 := hj; omega
        obtain ⟨i, i1, i2, i3, i4, i5, i6⟩ := h4 j hj h0j
        refine ⟨i, i1, ?_⟩
        rw [ew j hj, ew i (by omega), eb _ (nt j hj), em _ (nt j hj), eP _ (nt j hj), eP _ (nt i (by omega))]
        exact ⟨i2, i3, i4, i5, i6⟩
    · intro i j hij hj
      show sp_cd 1 (va_up P t (P (s.2.1 nx) ++ [a]) (va_up s.2.1 s.1 t i)) < sp_cd 1 (va_up P t (P (s.2.1 nx) ++ [a]) (va_up s.2.1 s.1 t j))
      by_cases e : j = s.1
      · subst e
        rw [ewn, ePt, ew i hij, eP _ (nt i hij), sp_cd_app]
        exact h7 hn i hij
      · have hj : j < s.1 := by have : j < s.1 + 1 := hj; omega
        rw [ew j hj, ew i (by omega), eP _ (nt j hj), eP _ (nt i (by omega))]
        exact h5 i j hij hj
    · intro i hi b hb hlb hc
      show (va_up s.2.2.1 t (some (s.2.1 nx)) (sp_aft (va_up s.2.1 s.1 t i) b)).isSome = true ∧ sp_cd 1 (va_up P t (P (s.2.1 nx) ++ [a]) (sp_aft (va_up s.2.1 s.1 t i) b)) ≤ 9 * sp_cd 1 (va_up P t (P (s.2.1 nx) ++ [a]) (va_up s.2.1 s.1 t i)) + b
      have hi : i < s.1 := by omega
      rw [ew i hi, eP (s.2.1 i) (nt i hi)]
      by_cases e : i = nx ∧ b = a
      · obtain ⟨rfl, rfl⟩ := e
        rw [htd, ebt, ePt, sp_cd_app]
        exact ⟨rfl, Nat.le_refl _⟩
      · obtain ⟨r1, r2⟩ := h6 i hi b hb hlb (by omega)
        have : sp_aft (s.2.1 i) b ≠ t := fun z => by rw [z, q2] at r1; cases r1
        rw [eb _ this, eP _ this]
        exact ⟨r1, r2⟩
    · intro _ j hj
      show sp_cd 1 (va_up P t (P (s.2.1 nx) ++ [a]) (va_up s.2.1 s.1 t j)) < 9 * sp_cd 1 (va_up P t (P (s.2.1 nx) ++ [a]) (va_up s.2.1 s.1 t nx)) + (a + 1)
      rw [ew nx hn, eP _ (nt nx hn)]
      by_cases e : j = s.1
      · subst e
        rw [ewn, ePt, sp_cd_app]; omega
      · have hj : j < s.1 := by have : j < s.1 + 1 := hj; omega
        rw [ew j hj, eP _ (nt j hj)]
        have := h7 hn j hj
        omega
  · rw [if_neg hq]
    refine ⟨P, ⟨⟨a1, a2, a3, a4, a5, a6⟩, h2, h3, h4, h5, fun i hi b hb hlb hc => ?_, fun hn j hj => ?_⟩, rfl, hn⟩
    · by_cases e : i = nx ∧ b = a
      · obtain ⟨rfl, rfl⟩ := e
        have hm : (s.2.2.1 t).isSome = true := by
          cases hq2 : s.2.2.1 t with
          | some _ => rfl
          | none =>
            exfalso
            have : sp_cnt (fun v => (s.2.2.1 v).isSome) 64 < 64 := sp_cnt_lt (v := t) (by simp [hq2]) ht
            exact hq ⟨hlb, hq2, by omega⟩
        rw [htd]
        refine ⟨hm, ?_⟩
        obtain ⟨j, j1, j2⟩ := h3 t ht hm
        have := h7 hn j j1
        rw [j2] at this
        omega
      · exact h6 i hi b hb hlb (by omega)
    · have := h7 hn j hj
      omega
theorem sp_bi_i {x lt : Nat} {s : sp_St} {P : Nat → List Nat} {nx : Nat} (h : sp_bi x lt s P nx 0) (hx : x < 64) (hn : nx < s.1) : ∀ a, a ≤ 9 → ∃ P1, sp_bi x lt (sp_wi lt (s.2.1 nx) s a) P1 nx a ∧ (sp_wi lt (s.2.1 nx) s a).2.1 nx = s.2.1 nx ∧ nx < (sp_wi lt (s.2.1 nx) s a).1
  | 0, _ => ⟨P, h, rfl, hn⟩
  | a + 1, ha => by
    obtain ⟨P1, p1, p2, p3⟩ := sp_bi_i h hx hn a (by omega)
    obtain ⟨P2, q1, q2, q3⟩ := sp_bi_1 p1 hx p3 (by omega)
    rw [p2] at q1 q2 q3
    exact ⟨P2, q1, q2, q3⟩
theorem sp_bi_nx {x lt : Nat} {s : sp_St} {P : Nat → List Nat} {nx : Nat} (h : sp_bi x lt s P nx 9) (hn : nx < s.1) : sp_bi x lt s P (nx + 1) 0 := by
  obtain ⟨h1, h2, h3, h4, h5, h6, h7⟩ := h
  refine ⟨h1, h2, h3, h4, h5, fun i hi b hb hlb hc => h6 i hi b hb hlb (by omega), fun hn1 j hj => ?_⟩
  have i1 := h7 hn j hj
  have i2 := h5 nx (nx + 1) (by omega) hn1
  omega
theorem sp_bi_o {x lt : Nat} (hx : x < 64) : ∀ (d nx : Nat) (s : sp_St) (P : Nat → List Nat), nx + d = 64 → nx ≤ s.1 → sp_bi x lt s P nx 0 → ∃ P1, sp_bi x lt (sp_wo lt d nx s) P1 (sp_wo lt d nx s).1 0
  | 0, nx, s, P, hd, hn, h => by
    have : s.1 ≤ 64 := h.1.1
    have e : nx = s.1 := by omega
    exact ⟨P, by rw [e] at h; exact h⟩
  | d + 1, nx, s, P, hd, hn, h => by
    show ∃ P1, sp_bi x lt (if nx < s.1 then sp_wo lt d (nx + 1) (sp_wi lt (s.2.1 nx) s 9) else s) P1 (if nx < s.1 then sp_wo lt d (nx + 1) (sp_wi lt (s.2.1 nx) s 9) else s).1 0
    by_cases e : nx < s.1
    · rw [if_pos e]
      obtain ⟨P1, p1, p2, p3⟩ := sp_bi_i h hx e 9 (by omega)
      exact sp_bi_o hx d (nx + 1) _ P1 (by omega) (by omega) (sp_bi_nx p1 p3)
    · rw [if_neg e]
      have e : nx = s.1 := by omega
      exact ⟨P, by rw [e] at h; exact h⟩
theorem sp_bi_0 {x lt : Nat} {wt : Nat → Nat} {bf : Nat → Option Nat} {mb : Nat → Nat} (hx : x < 64) : sp_bi x lt (sp_w0 x wt bf mb) (fun _ => []) 0 0 := by
  have ex : va_up (pm_fl none bf 64) x (some x) x = some x := by simp [va_up]
  have en : ∀ v, v < 64 → v ≠ x → va_up (pm_fl none bf 64) x (some x) v = none := fun v hv hne => by simp [va_up, hne, pm_fl, hv]
  have e0 : va_up wt 0 x 0 = x := by simp [va_up]
  refine ⟨⟨by show 1 ≤ 64; omega, by show 0 < 1; omega, ?_, e0, rfl, ex⟩, fun j hj => ?_, fun v hv hs => ?_, fun j hj h0 => ?_, fun i j hij hj => ?_, fun i hi b hb hlb hc => ?_, fun _ j hj => ?_⟩
  · show sp_cnt (fun v => (va_up (pm_fl none bf 64) x (some x) v).isSome) 64 = 1
    have z : ∀ n, n ≤ 64 → sp_cnt (fun v => (va_up (pm_fl none bf 64) x (some x) v).isSome) n = if x < n then 1 else 0 := by
      intro n
      induction n with
      | zero => intro _; rfl
      | succ n ih =>
        intro hn
        show sp_cnt _ n + (if (va_up (pm_fl none bf 64) x (some x) n).isSome then 1 else 0) = _
        rw [ih (by omega)]
        by_cases e : n = x
        · subst e; rw [ex]; simp
        · rw [en n (by omega) e]
          by_cases e2 : x < n
          · rw [if_pos e2, if_pos (show x < n + 1 by omega)]; rfl
          · rw [if_neg e2, if_neg (show ¬ x < n + 1 by omega)]; rfl
    rw [z 64 (by omega), if_pos hx]
  · have : j = 0 := by have : j < 1 := hj; omega
    subst this
    show va_up wt 0 x 0 < 64 ∧ (va_up (pm_fl none bf 64) x (some x) (va_up wt 0 x 0)).isSome = true ∧ _
    rw [e0, ex]
    exact ⟨hx, rfl, by simp, by simp⟩
  · by_cases e : v = x
    · exact ⟨0, by show 0 < 1; omega, by rw [e]; exact e0⟩
    · have hs : (va_up (pm_fl none bf 64) x (some x) v).isSome = true := hs
      rw [en v hv e] at hs; cases hs
  · have : j < 1 := hj
    omega
  · have : j < 1 := hj
    omega
  · omega
  · show 1 < 9 * 1 + 0
    omega
theorem sp_path_app {lt w v a : Nat} (ha : a < 9) (hb : lt / 2 ^ a % 2 = 1) (he : sp_aft w a = v) : ∀ (Q : List Nat) (k : Nat), sp_path lt w Q k → sp_path lt v (Q ++ [a]) k
  | [], k, h => by
    have h : k = w := h
    subst h
    exact ⟨ha, hb, he⟩
  | b :: Q, k, h => ⟨h.1, h.2.1, sp_path_app ha hb he Q _ h.2.2⟩
theorem sp_bi_cl {x lt : Nat} {s : sp_St} {P : Nat → List Nat} (h : sp_bi x lt s P s.1 0) : ∀ v, v < 64 → ∀ p, s.2.2.1 v = some p → p < 64 ∧ ∃ q, s.2.2.1 p = some q := by
  obtain ⟨⟨a1, a2, a3, a4, a5, a6⟩, h2, h3, h4, h5, h6, h7⟩ := h
  intro v hv p hp
  obtain ⟨j, j1, j2⟩ := h3 v hv (by rw [hp]; rfl)
  by_cases e : j = 0
  · subst e
    have : v = x := by rw [← j2, a4]
    subst this
    rw [a6] at hp
    obtain rfl : v = p := by simpa using hp
    exact ⟨hv, v, a6⟩
  · obtain ⟨i, i1, i2, -⟩ := h4 j j1 (by omega)
    rw [j2, hp] at i2
    obtain rfl : p = s.2.1 i := by simpa using i2
    have := h2 i (by omega)
    exact ⟨this.1, Option.isSome_iff_exists.mp this.2.1⟩
theorem sp_bi_p {x lt : Nat} {s : sp_St} {P : Nat → List Nat} (h : sp_bi x lt s P s.1 0) : ∀ (n j : Nat), j < n → j < s.1 → sp_path lt (s.2.1 j) (P (s.2.1 j)) x := by
  obtain ⟨⟨a1, a2, a3, a4, a5, a6⟩, h2, h3, h4, h5, h6, h7⟩ := h
  intro n
  induction n with
  | zero => intro j hj; omega
  | succ n ih =>
    intro j hj hjs
    by_cases e : j = 0
    · subst e
      rw [a4, a5]; rfl
    · obtain ⟨i, i1, i2, i3, i4, i5, i6⟩ := h4 j hjs (by omega)
      rw [i6]
      exact sp_path_app i3 i4 i5 _ _ (ih i (by omega) (by omega))
theorem sp_bi_all {x lt : Nat} {s : sp_St} {P : Nat → List Nat} (h : sp_bi x lt s P s.1 0) {y : Nat} : ∀ (Q : List Nat) (j C : Nat), j < s.1 → sp_cd 1 (P (s.2.1 j)) ≤ C → sp_path lt y Q (s.2.1 j) → (s.2.2.1 y).isSome = true ∧ sp_cd 1 (P y) ≤ sp_cd C Q := by
  obtain ⟨⟨a1, a2, a3, a4, a5, a6⟩, h2, h3, h4, h5, h6, h7⟩ := h
  intro Q
  induction Q with
  | nil =>
    intro j C hj hC hp
    have e : s.2.1 j = y := hp
    rw [← e]
    exact ⟨(h2 j hj).2.1, hC⟩
  | cons a Q ih =>
    intro j C hj hC hp
    obtain ⟨p1, p2, p3⟩ := hp
    obtain ⟨r1, r2⟩ := h6 j hj a p1 p2 (Or.inl hj)
    obtain ⟨i, i1, i2⟩ := h3 _ (sp_aft_lt _ (h2 j hj).1 a p1) r1
    rw [← i2] at r2 p3
    exact ih i (9 * C + a) i1 (by omega) p3
theorem sp_bi_fc {x lt : Nat} {s : sp_St} {P : Nat → List Nat} (h : sp_bi x lt s P s.1 0) {y : Nat} : ∀ (d j cn : Nat) (ac : Nat → Nat), j < s.1 → (P (s.2.1 j)).length ≤ d → (sp_fc s.2.2.1 s.2.2.2 x d (s.2.1 j) cn ac).1 = cn + (P (s.2.1 j)).length ∧ (∀ i, i < (P (s.2.1 j)).length → (sp_fc s.2.2.1 s.2.2.2 x d (s.2.1 j) cn ac).2 (cn + (P (s.2.1 j)).length - 1 - i) = (P (s.2.1 j)).getD i 0) ∧ ∀ i, i < cn → (sp_fc s.2.2.1 s.2.2.2 x d (s.2.1 j) cn ac).2 i = ac i := by
  have h0 := h
  obtain ⟨⟨a1, a2, a3, a4, a5, a6⟩, h2, h3, h4, h5, h6, h7⟩ := h
  intro d
  induction d with
  | zero =>
    intro j cn ac hj hl
    have e : P (s.2.1 j) = [] := List.eq_nil_of_length_eq_zero (by omega)
    rw [e]
    exact ⟨rfl, fun i hi => absurd hi (by simp), fun i hi => rfl⟩
  | succ d ih =>
    intro j cn ac hj hl
    by_cases e : j = 0
    · subst e
      have e1 : sp_fc s.2.2.1 s.2.2.2 x (d + 1) (s.2.1 0) cn ac = (cn, ac) := by
        show (if s.2.1 0 = x then (cn, ac) else _) = _
        rw [if_pos a4]
      rw [e1, a4, a5]
      exact ⟨rfl, fun i hi => absurd hi (by simp), fun i hi => rfl⟩
    · have ne : s.2.1 j ≠ x := fun z => by
        have := sp_bi_ne h0 hj a2 (by rw [z, a4])
        omega
      obtain ⟨i, i1, i2, i3, i4, i5, i6⟩ := h4 j hj (by omega)
      have e1 : sp_fc s.2.2.1 s.2.2.2 x (d + 1) (s.2.1 j) cn ac = sp_fc s.2.2.1 s.2.2.2 x d (s.2.1 i) (cn + 1) (va_up ac cn (s.2.2.2 (s.2.1 j))) := by
        show (if s.2.1 j = x then (cn, ac) else sp_fc s.2.2.1 s.2.2.2 x d ((s.2.2.1 (s.2.1 j)).getD 0) (cn + 1) (va_up ac cn (s.2.2.2 (s.2.1 j)))) = _
        rw [if_neg ne, i2]; rfl
      have hl2 : (P (s.2.1 j)).length = (P (s.2.1 i)).length + 1 := by rw [i6]; simp
      obtain ⟨k1, k2, k3⟩ := ih i (cn + 1) (va_up ac cn (s.2.2.2 (s.2.1 j))) (by omega) (by omega)
      rw [e1, hl2]
      refine ⟨by rw [k1]; omega, fun q hq => ?_, fun q hq => ?_⟩
      · by_cases eq : q = (P (s.2.1 i)).length
        · rw [show cn + ((P (s.2.1 i)).length + 1) - 1 - q = cn by omega, k3 cn (by omega), i6, eq]
          simp [va_up, List.getD]
        · have := k2 q (by omega)
          rw [show cn + ((P (s.2.1 i)).length + 1) - 1 - q = cn + 1 + (P (s.2.1 i)).length - 1 - q by omega, this, i6]
          simp [List.getD, List.getElem?_append_left (show q < (P (s.2.1 i)).length by omega)]
      · rw [k3 q (by omega)]
        simp [va_up, Nat.ne_of_lt hq]
/-- the two ways of finding a way give the same acts -/
theorem sp_bfs {x y lt : Nat} {wt : Nat → Nat} {bf : Nat → Option Nat} {mb ac : Nat → Nat} (hx : x < 64) (hy : y < 64) :
  (∀ v, v < 64 → ∀ p, (sp_wo lt 64 0 (sp_w0 x wt bf mb)).2.2.1 v = some p → p < 64 ∧ ∃ q, (sp_wo lt 64 0 (sp_w0 x wt bf mb)).2.2.1 p = some q) ∧
  (∀ Q, sp_path lt y Q x → ∃ R : List Nat, R.length < 64 ∧ sp_path lt y R x) ∧
  ((sp_wo lt 64 0 (sp_w0 x wt bf mb)).2.2.1 y = none → ∀ fr, m_inv lt y fr → fr x = 1000) ∧
  (∀ q, (sp_wo lt 64 0 (sp_w0 x wt bf mb)).2.2.1 y = some q → ∀ fr, m_inv lt y fr → m_fix lt fr → fr x < 64 ∧ (sp_fc (sp_wo lt 64 0 (sp_w0 x wt bf mb)).2.2.1 (sp_wo lt 64 0 (sp_w0 x wt bf mb)).2.2.2 x 64 y 0 ac).1 = fr x ∧ ∀ i, i < fr x → (sp_fc (sp_wo lt 64 0 (sp_w0 x wt bf mb)).2.2.1 (sp_wo lt 64 0 (sp_w0 x wt bf mb)).2.2.2 x 64 y 0 ac).2 (fr x - 1 - i) = (sp_gp lt fr (fr x) x).getD i 0) := by
  obtain ⟨P, hb⟩ := sp_bi_o (lt := lt) hx 64 0 (sp_w0 x wt bf mb) (fun _ => []) (by omega) (by omega) (sp_bi_0 hx)
  generalize sp_wo lt 64 0 (sp_w0 x wt bf mb) = s at hb ⊢
  have hb0 := hb
  obtain ⟨⟨a1, a2, a3, a4, a5, a6⟩, h2, h3, h4, h5, h6, h7⟩ := hb
  have cl : ∀ Q, sp_path lt y Q x → (s.2.2.1 y).isSome = true ∧ sp_cd 1 (P y) ≤ sp_cd 1 Q := fun Q hQ => sp_bi_all hb0 Q 0 1 a2 (by rw [a4, a5]; exact Nat.le_refl _) (by rw [a4]; exact hQ)
  have met : (s.2.2.1 y).isSome = true → sp_path lt y (P y) x ∧ (P y).length < 64 ∧ (∀ b, b ∈ P y → b < 9) ∧ ∃ j, j < s.1 ∧ s.2.1 j = y := fun hm => by
    obtain ⟨j, j1, j2⟩ := h3 y hy hm
    have p1 := sp_bi_p hb0 (j + 1) j (by omega) j1
    have p2 := h2 j j1
    rw [j2] at p1 p2
    exact ⟨p1, by omega, p2.2.2.2, j, j1, j2⟩
  refine ⟨sp_bi_cl hb0, fun Q hQ => ?_, fun hn fr hi => ?_, fun q hq fr hi hf => ?_⟩
  · obtain ⟨m1, m2, -⟩ := met (cl Q hQ).1
    exact ⟨P y, m2, m1⟩
  · by_cases e : fr x < 1000
    · obtain ⟨Q, q1, q2⟩ := hi.2.2 x hx e
      have := (cl Q q2).1
      rw [hn] at this; cases this
    · have := hi.1 x hx
      omega
  · obtain ⟨m1, m2, m3, j, j1, j2⟩ := met (by rw [hq]; rfl)
    have l1 := m_fr_le hi hf (P y) x hx m1
    obtain ⟨g1, g2⟩ := m_gp_le hi hf (fr x) x hx rfl (by omega)
    obtain ⟨-, c2⟩ := cl _ g1
    have l2 := sp_cd_len m3 (sp_path_d g1) c2
    rw [sp_gp_len] at l2
    have l3 : (P y).length = fr x := by omega
    have c3 := g2 (P y) 1 l3 m1
    have eP := (sp_cd_inj (P y) (sp_gp lt fr (fr x) x) 1 1 (by rw [sp_gp_len, l3]) m3 (sp_path_d g1) (by omega)).2
    obtain ⟨f1, f2, -⟩ := sp_bi_fc (y := y) hb0 64 j 0 ac j1 (by rw [j2]; omega)
    rw [j2] at f1 f2
    refine ⟨by omega, by rw [f1]; omega, fun i hid => ?_⟩
    have := f2 i (by omega)
    rw [show 0 + (P y).length - 1 - i = fr x - 1 - i by omega, eP] at this
    exact this

