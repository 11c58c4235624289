/-! fractions in lowest terms -/
def m_u (w D : Nat) : Nat := w / Nat.gcd w D
def m_l (w D : Nat) : Nat := D / Nat.gcd w D
theorem m_gp {w D : Nat} (hD : 0 < D) : 0 < Nat.gcd w D := Nat.gcd_pos_of_pos_right w hD
theorem m_ul {w D : Nat} : m_u w D * D = w * m_l w D := by
  unfold m_u m_l
  have h1 := Nat.gcd_dvd_left w D
  have h2 := Nat.gcd_dvd_right w D
  rw [Nat.div_mul_right_comm h1, Nat.mul_div_assoc _ h2]
theorem m_l_pos {w D : Nat} (hD : 0 < D) : 0 < m_l w D := Nat.div_pos (Nat.le_of_dvd hD (Nat.gcd_dvd_right w D)) (m_gp hD)
theorem m_l_dvd {w D : Nat} : m_l w D ∣ D := Nat.div_dvd_of_dvd (Nat.gcd_dvd_right w D)
theorem m_l_le {w D : Nat} : m_l w D ≤ D := Nat.div_le_self _ _
theorem m_u_le {w D : Nat} : m_u w D ≤ w := Nat.div_le_self _ _
theorem m_cop {w D : Nat} (hD : 0 < D) : Nat.gcd (m_u w D) (m_l w D) = 1 := by
  unfold m_u m_l
  rw [Nat.gcd_div (Nat.gcd_dvd_left w D) (Nat.gcd_dvd_right w D)]
  exact Nat.div_self (m_gp hD)
theorem m_uni0 {a b c d : Nat} (hb : 0 < b) (hd : 0 < d) (h1 : Nat.gcd a b = 1) (h2 : Nat.gcd c d = 1) (h : a * d = c * b) : a = c ∧ b = d := by
  have e1 : b ∣ d := Nat.Coprime.dvd_of_dvd_mul_left (Nat.Coprime.symm h1) ⟨c, by rw [h, Nat.mul_comm]⟩
  have e2 : d ∣ b := Nat.Coprime.dvd_of_dvd_mul_left (Nat.Coprime.symm h2) ⟨a, by rw [← h, Nat.mul_comm]⟩
  have e : b = d := Nat.dvd_antisymm e1 e2
  subst e
  exact ⟨Nat.eq_of_mul_eq_mul_right hb h, rfl⟩
theorem m_uni {p q w D : Nat} (hq : 0 < q) (hD : 0 < D) (h : p * D = w * q) : p / Nat.gcd p q = m_u w D ∧ q / Nat.gcd p q = m_l w D := by
  refine m_uni0 (m_l_pos (w := p) hq) (m_l_pos hD) (m_cop (w := p) hq) (m_cop hD) ?_
  have e1 := m_ul (w := p) (D := q)
  have e2 := m_ul (w := w) (D := D)
  apply Nat.eq_of_mul_eq_mul_right (Nat.mul_pos hq hD)
  calc m_u p q * m_l w D * (q * D) = (m_u p q * q) * (m_l w D * D) := by ac_rfl
    _ = (p * m_l p q) * (m_l w D * D) := by rw [e1]
    _ = m_l p q * m_l w D * (p * D) := by ac_rfl
    _ = m_l p q * m_l w D * (w * q) := by rw [h]
    _ = (w * m_l w D) * (m_l p q * q) := by ac_rfl
    _ = (m_u w D * D) * (m_l p q * q) := by rw [e2]
    _ = m_u w D * m_l p q * (q * D) := by ac_rfl
theorem m_red {a b w D : Nat} (hb : 0 < b) (hD : 0 < D) (h1 : Nat.gcd a b = 1) (h : a * D = w * b) : a = m_u w D ∧ b = m_l w D := by
  have := m_uni hb hD h
  rw [h1, Nat.div_one, Nat.div_one] at this
  exact this
theorem m_u0 {D : Nat} : m_u 0 D = 0 := by unfold m_u; exact Nat.zero_div _
theorem m_l0 {D : Nat} (hD : 0 < D) : m_l 0 D = 1 := by unfold m_l; rw [Nat.gcd_zero_left]; exact Nat.div_self hD
theorem m_u_pos {w D : Nat} (hD : 0 < D) : 0 < m_u w D ↔ 0 < w := by
  constructor
  · intro h; exact Nat.lt_of_lt_of_le h m_u_le
  · intro h; exact Nat.div_pos (Nat.le_of_dvd h (Nat.gcd_dvd_left w D)) (m_gp hD)
theorem m_add {w D c d e : Nat} (hD : 0 < D) (hd : d ∣ D) (hc : c * D = e * d) :
  let b := m_l w D
  let g := Nat.gcd d b
  let p := m_u w D * (d / g) + c * (b / g)
  let q := b / g * d
  0 < g ∧ g ≤ D ∧ q ∣ D ∧ 0 < q ∧ p ≤ w + e ∧ p / Nat.gcd q p = m_u (w + e) D ∧ q / Nat.gcd q p = m_l (w + e) D := by
  intro b g p q
  have hd0 : 0 < d := Nat.pos_of_dvd_of_pos hd hD
  have hb0 : 0 < b := m_l_pos hD
  have hg0 : 0 < g := Nat.gcd_pos_of_pos_left _ hd0
  have gd : g ∣ d := Nat.gcd_dvd_left d b
  have gb : g ∣ b := Nat.gcd_dvd_right d b
  have hqd : q ∣ D := by
    show b / g * d ∣ D
    have : b / g * d = Nat.lcm d b := by
      show b / g * d = d * b / Nat.gcd d b
      rw [Nat.mul_comm, Nat.mul_div_assoc _ gb]
    rw [this]
    exact Nat.lcm_dvd hd m_l_dvd
  have hq0 : 0 < q := Nat.pos_of_dvd_of_pos hqd hD
  have e1 : b * (d / g) = b / g * d := by rw [← Nat.mul_div_assoc _ gd, Nat.div_mul_right_comm gb]
  have hpq : p * D = (w + e) * q := by
    show (m_u w D * (d / g) + c * (b / g)) * D = (w + e) * (b / g * d)
    have e2 := m_ul (w := w) (D := D)
    calc (m_u w D * (d / g) + c * (b / g)) * D = (m_u w D * D) * (d / g) + (c * D) * (b / g) := by rw [Nat.add_mul]; ac_rfl
      _ = (w * b) * (d / g) + (e * d) * (b / g) := by rw [e2, hc]
      _ = w * (b * (d / g)) + e * (b / g * d) := by ac_rfl
      _ = (w + e) * (b / g * d) := by rw [e1, Nat.add_mul]
  have hle : p ≤ w + e := by
    apply Nat.le_of_mul_le_mul_right _ hD
    rw [hpq]
    exact Nat.mul_le_mul_left _ (Nat.le_of_dvd hD hqd)
  have hu := m_uni hq0 hD hpq
  rw [Nat.gcd_comm] at hu
  exact ⟨hg0, Nat.le_trans (Nat.le_of_dvd hd0 gd) (Nat.le_of_dvd hD hd), hqd, hq0, hle, hu.1, hu.2⟩
/-- the share of a part of a fraction, in lowest terms -/
theorem m_part {w D s P : Nat} (hD : 0 < D) (hP : 0 < P) (hs : P ∣ s) (hs0 : 0 < s) : m_u w D / Nat.gcd P (m_u w D) = m_u (w * s / P) (D * s) ∧ m_l w D * (P / Nat.gcd P (m_u w D)) = m_l (w * s / P) (D * s) := by
  have hg0 : 0 < Nat.gcd P (m_u w D) := Nat.gcd_pos_of_pos_left _ hP
  have g1 : Nat.gcd P (m_u w D) ∣ P := Nat.gcd_dvd_left _ _
  have g2 : Nat.gcd P (m_u w D) ∣ m_u w D := Nat.gcd_dvd_right _ _
  have hPg : 0 < P / Nat.gcd P (m_u w D) := Nat.div_pos (Nat.le_of_dvd hP g1) hg0
  refine m_red (Nat.mul_pos (m_l_pos hD) hPg) (Nat.mul_pos hD hs0) ?_ ?_
  · have c1 : Nat.Coprime (m_u w D / Nat.gcd P (m_u w D)) (m_l w D) := Nat.Coprime.coprime_dvd_left (Nat.div_dvd_of_dvd g2) (m_cop hD)
    have c2 : Nat.Coprime (m_u w D / Nat.gcd P (m_u w D)) (P / Nat.gcd P (m_u w D)) := by
      have : Nat.gcd (P / Nat.gcd P (m_u w D)) (m_u w D / Nat.gcd P (m_u w D)) = 1 := by
        rw [Nat.gcd_div g1 g2]; exact Nat.div_self hg0
      exact Nat.Coprime.symm this
    exact Nat.Coprime.mul_right c1 c2
  · obtain ⟨t, rfl⟩ := hs
    rw [show w * (P * t) / P = w * t from by rw [show w * (P * t) = (w * t) * P by ac_rfl]; exact Nat.mul_div_cancel _ hP]
    have e2 := m_ul (w := w) (D := D)
    calc m_u w D / Nat.gcd P (m_u w D) * (D * (P * t)) = (m_u w D / Nat.gcd P (m_u w D) * P) * (D * t) := by ac_rfl
      _ = (m_u w D * (P / Nat.gcd P (m_u w D))) * (D * t) := by rw [Nat.div_mul_right_comm g2, Nat.mul_div_assoc _ g1]
      _ = (m_u w D * D) * (P / Nat.gcd P (m_u w D) * t) := by ac_rfl
      _ = (w * m_l w D) * (P / Nat.gcd P (m_u w D) * t) := by rw [e2]
      _ = w * t * (m_l w D * (P / Nat.gcd P (m_u w D))) := by ac_rfl
theorem m_share {w D : Nat} (hD : 0 < D) : m_u w D * 1000000 / m_l w D = 1000000 * w / D := by
  have hl := m_l_pos (w := w) hD
  have e2 := m_ul (w := w) (D := D)
  have hg := m_gp (w := w) hD
  have a1 : w = m_u w D * Nat.gcd w D := (Nat.div_mul_cancel (Nat.gcd_dvd_left w D)).symm
  have a2 : D = m_l w D * Nat.gcd w D := (Nat.div_mul_cancel (Nat.gcd_dvd_right w D)).symm
  have : 1000000 * w / D = (m_u w D * 1000000) * Nat.gcd w D / (m_l w D * Nat.gcd w D) := by
    rw [← a2, show m_u w D * 1000000 * Nat.gcd w D = 1000000 * (m_u w D * Nat.gcd w D) by ac_rfl, ← a1]
  rw [this, Nat.mul_div_mul_right _ _ hg]
theorem m_dig {u l s r : Nat} (hl : 0 < l) (hs : s = u / l) (hr : r = u % l) : 10 * s + 10 * r / l = u * 10 / l ∧ 10 * r % l = u * 10 % l := by
  have e := Nat.div_add_mod u l
  rw [← hs, ← hr] at e
  have e3 : u * 10 = 10 * r + (10 * s) * l := by rw [← e, Nat.add_mul]; rw [Nat.add_comm]; congr 1 <;> ac_rfl
  rw [e3, Nat.add_mul_div_right _ _ hl, Nat.add_mul_mod_self_right]
  exact ⟨by omega, rfl⟩
/-! the whole of the weights, and their bounds -/
theorem sp_sum_ge {f : Nat → Nat} {k : Nat} : ∀ {n : Nat}, k < n → f k ≤ sp_sum f n
  | 0, h => absurd h (by omega)
  | n + 1, h => by
    show f k ≤ sp_sum f n + f n
    by_cases e : k = n
    · subst e; omega
    · have := sp_sum_ge (f := f) (k := k) (n := n) (by omega)
      omega
theorem sp_sum_mo {f : Nat → Nat} {m : Nat} : ∀ {n : Nat}, m ≤ n → sp_sum f m ≤ sp_sum f n
  | 0, h => by rw [show m = 0 by omega]; exact Nat.le_refl _
  | n + 1, h => by
    by_cases e : m = n + 1
    · subst e; exact Nat.le_refl _
    · have := sp_sum_mo (f := f) (m := m) (n := n) (by omega)
      show sp_sum f m ≤ sp_sum f n + f n
      omega
theorem sp_sum_z {f : Nat → Nat} : ∀ {n : Nat}, (∀ j, j < n → f j = 0) → sp_sum f n = 0
  | 0, _ => rfl
  | n + 1, h => by
    show sp_sum f n + f n = 0
    rw [sp_sum_z (fun j hj => h j (by omega)), h n (by omega)]
theorem sp_sum_add {f : Nat → Nat} {k e n : Nat} (hk : k < n) : sp_sum (va_up f k (f k + e)) n = sp_sum f n + e := by
  have := sp_sum_up (f := f) (k := k) (v := f k + e) (n := n) hk
  omega
theorem sp_sh_pos {lo hi : Nat} {Hp : Nat → Nat} : ∀ {n : Nat}, 0 < sp_sh lo hi Hp n
  | 0 => Nat.one_pos
  | n + 1 => by
    have ih := sp_sh_pos (lo := lo) (hi := hi) (Hp := Hp) (n := n)
    show 0 < if 2 ≤ n ∧ 0 < Hp n then sp_sh lo hi Hp n * sp_places lo hi n else sp_sh lo hi Hp n
    split
    · exact Nat.mul_pos ih (by unfold sp_places; omega)
    · exact ih
theorem sp_sh_dvd {lo hi : Nat} {Hp : Nat → Nat} {j : Nat} (h2 : 2 ≤ j) (h0 : 0 < Hp j) : ∀ {n : Nat}, j < n → sp_places lo hi j ∣ sp_sh lo hi Hp n
  | 0, h => absurd h (by omega)
  | n + 1, h => by
    show sp_places lo hi j ∣ if 2 ≤ n ∧ 0 < Hp n then sp_sh lo hi Hp n * sp_places lo hi n else sp_sh lo hi Hp n
    by_cases e : j = n
    · subst e
      rw [if_pos ⟨h2, h0⟩]
      exact Nat.dvd_mul_left _ _
    · have ih := sp_sh_dvd (lo := lo) (hi := hi) h2 h0 (n := n) (by omega)
      split
      · exact Nat.dvd_trans ih (Nat.dvd_mul_right _ _)
      · exact ih
def sp_nbl (L : List Nat) (n : Nat) : Nat := (L.filter (fun x => decide (x < n))).length
theorem sp_nbl_mo {n : Nat} : ∀ {L : List Nat}, sp_nbl L n ≤ sp_nbl L (n + 1) ∧ (n ∈ L → sp_nbl L n + 1 ≤ sp_nbl L (n + 1))
  | [] => ⟨Nat.le_refl _, fun h => by cases h⟩
  | a :: L => by
    obtain ⟨i1, i2⟩ := sp_nbl_mo (n := n) (L := L)
    unfold sp_nbl at i1 i2 ⊢
    refine ⟨?_, fun h => ?_⟩
    · by_cases e : a < n
      · simp [List.filter_cons, e, show a < n + 1 by omega]; exact i1
      · by_cases e2 : a < n + 1
        · simp [List.filter_cons, e, e2]; omega
        · simp [List.filter_cons, e, e2]; exact i1
    · rcases List.mem_cons.mp h with g | g
      · subst g
        simp [List.filter_cons]; exact i1
      · have := i2 g
        by_cases e : a < n
        · simp [List.filter_cons, e, show a < n + 1 by omega]; omega
        · by_cases e2 : a < n + 1
          · simp [List.filter_cons, e, e2]; omega
          · simp [List.filter_cons, e, e2]; omega
theorem sp_nbl_le {L : List Nat} {n : Nat} : sp_nbl L n ≤ L.length := List.length_filter_le _ _
theorem sp_sh_le {lo hi : Nat} {Hp : Nat → Nat} {L : List Nat} (hl : 1 ≤ lo) (hh : lo ≤ hi) (hhi : hi ≤ 59) (hL : ∀ j, j < 61 → 0 < Hp j → j ∈ L) : ∀ {n : Nat}, n ≤ 61 → sp_sh lo hi Hp n ≤ 59 ^ sp_nbl L n
  | 0, _ => by
    show 1 ≤ _
    exact Nat.pow_pos (by decide)
  | n + 1, hn => by
    have ih := sp_sh_le hl hh hhi hL (n := n) (by omega)
    obtain ⟨m1, m2⟩ := sp_nbl_mo (n := n) (L := L)
    show (if 2 ≤ n ∧ 0 < Hp n then sp_sh lo hi Hp n * sp_places lo hi n else sp_sh lo hi Hp n) ≤ _
    split
    · next h =>
      have m3 := m2 (hL n (by omega) h.2)
      have p := sp_places_in (n := n) h.1 hl hh hhi
      calc sp_sh lo hi Hp n * sp_places lo hi n ≤ 59 ^ sp_nbl L n * 59 := Nat.mul_le_mul ih p.2.1
        _ = 59 ^ (sp_nbl L n + 1) := (Nat.pow_succ _ _).symm
        _ ≤ 59 ^ sp_nbl L (n + 1) := Nat.pow_le_pow_right (by decide) m3
    · exact Nat.le_trans ih (Nat.pow_le_pow_right (by decide) m1)
/-- a heap's parting: where to, and how many -/
theorem sp_pl_sum {k f lo n e : Nat} {g : Nat → Nat} : ∀ (c : Nat), (∀ i, i < c → sp_left k f n (sp_first lo n + i) < 61) → sp_sum (sp_pl k f lo n e g c) 61 = sp_sum g 61 + c * e
  | 0, _ => by show sp_sum g 61 = _; omega
  | c + 1, h => by
    show sp_sum (va_up (sp_pl k f lo n e g c) _ (sp_pl k f lo n e g c _ + e)) 61 = _
    rw [sp_sum_add (h c (by omega)), sp_pl_sum c (fun i hid => h i (by omega)), Nat.succ_mul]
    omega
theorem sp_ph_sum {k f lo hi n w : Nat} {g : Nat → Nat} (hk : 2 ≤ k) (hl : 1 ≤ lo) (hh : lo ≤ hi) (hhi : hi ≤ 59) (hn : n < 61) (hd : 2 ≤ n → sp_places lo hi n ∣ w) : sp_sum (sp_ph k f lo hi n w g) 61 = sp_sum g 61 + w := by
  unfold sp_ph
  by_cases e : n < 2
  · rw [if_pos e, sp_sum_add hn]
  · rw [if_neg e]
    have p := sp_places_in (n := n) (by omega) hl hh hhi
    have p2 := sp_first_in (lo := lo) (n := n) (by omega) hl
    rw [sp_pl_sum _ (fun i hid => Nat.lt_trans (sp_left_lt (by omega) (by omega) (by omega)) hn), Nat.mul_div_cancel' (hd (by omega))]
theorem sp_pp_sum {k f lo hi sh : Nat} {Hp g : Nat → Nat} (hk : 2 ≤ k) (hl : 1 ≤ lo) (hh : lo ≤ hi) (hhi : hi ≤ 59) (hd : ∀ n, n < 61 → 2 ≤ n → 0 < Hp n → sp_places lo hi n ∣ sh) : ∀ (i : Nat), i ≤ 61 → sp_sum (sp_pp k f lo hi sh Hp g i) 61 = sp_sum g 61 + sp_sum Hp i * sh
  | 0, _ => by show sp_sum g 61 = sp_sum g 61 + 0 * sh; omega
  | i + 1, hid => by
    have ih := sp_pp_sum (f := f) hk hl hh hhi hd i (g := g) (by omega)
    show sp_sum (if 0 < Hp i then sp_ph k f lo hi i (Hp i * sh) (sp_pp k f lo hi sh Hp g i) else sp_pp k f lo hi sh Hp g i) 61 = sp_sum g 61 + (sp_sum Hp i + Hp i) * sh
    rw [Nat.add_mul]
    split
    · next h =>
      rw [sp_ph_sum hk hl hh hhi (by omega) (fun h2 => Nat.dvd_trans (hd i (by omega) h2 h) (Nat.dvd_mul_left _ _)), ih]
      omega
    · next h =>
      rw [ih, show Hp i = 0 by omega]; omega
/-- where a heap may go -/
def sp_to (k f n j : Nat) : Prop := (n < 2 ∧ j = n) ∨ (2 ≤ n ∧ ∃ a, 1 ≤ a ∧ a < n ∧ j = sp_left k f n a)
theorem sp_pl_to {k f lo n e : Nat} {g : Nat → Nat} {j : Nat} : ∀ (c : Nat), 0 < sp_pl k f lo n e g c j → 0 < g j ∨ ∃ i, i < c ∧ j = sp_left k f n (sp_first lo n + i)
  | 0, h => Or.inl h
  | c + 1, h => by
    have h : 0 < va_up (sp_pl k f lo n e g c) (sp_left k f n (sp_first lo n + c)) (sp_pl k f lo n e g c (sp_left k f n (sp_first lo n + c)) + e) j := h
    by_cases e : j = sp_left k f n (sp_first lo n + c)
    · exact Or.inr ⟨c, by omega, e⟩
    · simp only [va_up, if_neg e] at h
      rcases sp_pl_to c h with z | ⟨i, i1, i2⟩
      · exact Or.inl z
      · exact Or.inr ⟨i, by omega, i2⟩
theorem sp_pp_to {k f lo hi sh : Nat} {Hp g : Nat → Nat} (hl : 1 ≤ lo) (hh : lo ≤ hi) (hhi : hi ≤ 59) {j : Nat} : ∀ (i : Nat), 0 < sp_pp k f lo hi sh Hp g i j → 0 < g j ∨ ∃ n, n < i ∧ 0 < Hp n ∧ sp_to k f n j
  | 0, h => Or.inl h
  | i + 1, h => by
    have h : 0 < (if 0 < Hp i then sp_ph k f lo hi i (Hp i * sh) (sp_pp k f lo hi sh Hp g i) else sp_pp k f lo hi sh Hp g i) j := h
    have up : 0 < sp_pp k f lo hi sh Hp g i j → 0 < g j ∨ ∃ n, n < i + 1 ∧ 0 < Hp n ∧ sp_to k f n j := fun z => by
      rcases sp_pp_to hl hh hhi i z with z | ⟨n, n1, n2⟩
      · exact Or.inl z
      · exact Or.inr ⟨n, by omega, n2⟩
    by_cases e : 0 < Hp i
    · rw [if_pos e] at h
      unfold sp_ph at h
      by_cases e2 : i < 2
      · rw [if_pos e2] at h
        by_cases e3 : j = i
        · exact Or.inr ⟨i, by omega, e, Or.inl ⟨e2, e3⟩⟩
        · simp only [va_up, if_neg e3] at h
          exact up h
      · rw [if_neg e2] at h
        rcases sp_pl_to _ h with z | ⟨c, c1, c2⟩
        · exact up z
        · have p := sp_places_in (n := i) (by omega) hl hh hhi
          have p2 := sp_first_in (lo := lo) (n := i) (by omega) hl
          exact Or.inr ⟨i, by omega, e, Or.inr ⟨by omega, _, by omega, by omega, c2⟩⟩
    · rw [if_neg e] at h
      exact up h
def sp_lt2 (k f n a : Nat) : Bool := k < 2 || a < 1 || sp_left k f n a == k * ((n - f - 1) / k) || sp_left k f n a == k * ((n - f - 1) / k - 1)
theorem sp_lt2_t : ∀ k, k < 9 → ∀ f, f < 2 → ∀ n, n < 61 → ∀ a, a < n → sp_lt2 k f n a = true := by decide +kernel
theorem sp_left_two (k : Nat) (hk : k < 9) (hk2 : 2 ≤ k) (f : Nat) (hf : f < 2) (n : Nat) (hn : n < 61) (a : Nat) (ha : a < n) (h1 : 1 ≤ a) : sp_left k f n a = k * ((n - f - 1) / k) ∨ sp_left k f n a = k * ((n - f - 1) / k - 1) := by
  have := sp_lt2_t k hk f hf n hn a ha
  simp only [sp_lt2, Bool.or_eq_true, decide_eq_true_eq, beq_iff_eq] at this
  rcases this with ((h | h) | h) | h
  · omega
  · omega
  · exact Or.inl h
  · exact Or.inr h
theorem sp_to_k {k f Q n j r : Nat} (hk : 2 ≤ k) (hk8 : k ≤ 8) (hf : f ≤ 1) (hn : n < 61) (h : sp_to k f n j) (hs : ∃ t, t ≤ r ∧ n = k * (Q - t)) : ∃ t, t ≤ r + 1 ∧ j = k * (Q - 1 - t) := by
  obtain ⟨t, t1, t2⟩ := hs
  rcases h with ⟨h1, h2⟩ | ⟨h1, a, a1, a2, a3⟩
  · have e : Q - t = 0 := by
      rcases Nat.eq_zero_or_pos (Q - t) with z | z
      · exact z
      · have : k * 1 ≤ k * (Q - t) := Nat.mul_le_mul_left k z
        omega
    exact ⟨t, by omega, by rw [h2, t2, e, show Q - 1 - t = 0 by omega]⟩
  · have e : (n - f - 1) / k = Q - t - 1 := by
      rcases Nat.eq_zero_or_pos (Q - t) with z | z
      · rw [z] at t2; omega
      · obtain ⟨c, hc⟩ : ∃ c, Q - t = c + 1 := ⟨Q - t - 1, by omega⟩
        rw [hc, Nat.mul_add, Nat.mul_one] at t2
        rw [t2, hc, show k * c + k - f - 1 = (k - f - 1) + k * c by omega, Nat.add_mul_div_left _ _ (by omega), Nat.div_eq_of_lt (by omega)]
        omega
    rcases sp_left_two k (by omega) hk f (by omega) n hn a a2 a1 with z | z
    · exact ⟨t, by omega, by rw [a3, z, e]; congr 1; omega⟩
    · exact ⟨t + 1, by omega, by rw [a3, z, e]; congr 1; omega⟩
/-- what a round leaves -/
theorem sp_R_ok {k f lo hi : Nat} {t : sp_T3} {L : List Nat} (hk : 2 ≤ k) (hl : 1 ≤ lo) (hh : lo ≤ hi) (hhi : hi ≤ 59) (hs : sp_sum t.1 61 = t.2.2) (h0 : 0 < t.2.2) (hL : ∀ j, j < 61 → 0 < t.1 j → j ∈ L) (hb : t.2.2 * 59 ^ L.length < 2 ^ 40) :
  sp_bd lo hi t.1 ∧ sp_sum (sp_R k f lo hi t).1 61 = (sp_R k f lo hi t).2.2 ∧ 0 < (sp_R k f lo hi t).2.2 ∧ (sp_R k f lo hi t).2.2 ≤ t.2.2 * 59 ^ L.length ∧ ∀ j, j < 61 → 0 < (sp_R k f lo hi t).1 j → ∃ n, n < 61 ∧ 0 < t.1 n ∧ sp_to k f n j := by
  have q1 := sp_sh_le hl hh hhi hL (n := 61) (by omega)
  have q2 : sp_sh lo hi t.1 61 ≤ 59 ^ L.length := Nat.le_trans q1 (Nat.pow_le_pow_right (by decide) sp_nbl_le)
  have q3 : t.2.2 * sp_sh lo hi t.1 61 ≤ t.2.2 * 59 ^ L.length := Nat.mul_le_mul_left _ q2
  have q4 := sp_sh_pos (lo := lo) (hi := hi) (Hp := t.1) (n := 61)
  have ecp : ∀ j, j < 61 → (sp_R k f lo hi t).1 j = sp_pp k f lo hi (sp_sh lo hi t.1 61) t.1 (pm_fl 0 t.2.1 61) 61 j := fun j hj => by
    show va_cpy _ _ 0 0 61 j = _
    simp only [va_cpy]
    rw [if_pos (by omega)]
    simp
  have ez : ∀ j, j < 61 → pm_fl 0 t.2.1 61 j = 0 := fun j hj => by simp only [pm_fl]; rw [if_pos hj]
  refine ⟨fun j hj => ?_, ?_, Nat.mul_pos h0 q4, q3, fun j hj hp => ?_⟩
  · have a1 := sp_sum_ge (f := t.1) hj
    rw [hs] at a1
    have a2 : t.1 j * sp_sh lo hi t.1 61 ≤ t.2.2 * sp_sh lo hi t.1 61 := Nat.mul_le_mul_right _ a1
    have a3 : t.2.2 * 1 ≤ t.2.2 * 59 ^ L.length := Nat.mul_le_mul_left _ (Nat.pow_pos (by decide))
    omega
  · rw [sp_sum_cg ecp, sp_pp_sum hk hl hh hhi (fun n hn h2 hp => sp_sh_dvd h2 hp hn) 61 (by omega), sp_sum_z ez, hs, Nat.zero_add]
    rfl
  · rw [ecp j hj] at hp
    rcases sp_pp_to hl hh hhi 61 hp with z | z
    · rw [ez j hj] at z; omega
    · exact z
theorem sp_S3_ok {n k f lo hi m : Nat} {Hp Nx : Nat → Nat} (ok : pm_ok n k f lo hi) (hm : 4 ≤ m ∧ m ≤ 60) : (∀ r, r < 3 → sp_bd lo hi (sp_S3 k f lo hi m Hp Nx r).1) ∧ ∀ r, r < 4 → sp_sum (sp_S3 k f lo hi m Hp Nx r).1 61 = (sp_S3 k f lo hi m Hp Nx r).2.2 ∧ 0 < (sp_S3 k f lo hi m Hp Nx r).2.2 ∧ (sp_S3 k f lo hi m Hp Nx r).2.2 < 2 ^ 40 := by
  obtain ⟨g1, g2, g3, g4, g5, g6, g7, g8⟩ := ok
  have ez : ∀ j, j < 61 → pm_fl 0 Hp 61 j = 0 := fun j hj => by simp only [pm_fl]; rw [if_pos hj]
  have s0 : sp_sum (sp_S3 k f lo hi m Hp Nx 0).1 61 = (sp_S3 k f lo hi m Hp Nx 0).2.2 := by
    show sp_sum (va_up (pm_fl 0 Hp 61) m 1) 61 = 1
    have := sp_sum_up (f := pm_fl 0 Hp 61) (k := m) (v := 1) (n := 61) (by omega)
    rw [sp_sum_z ez, ez m (by omega)] at this
    omega
  have p0 : ∀ j, j < 61 → 0 < (sp_S3 k f lo hi m Hp Nx 0).1 j → j ∈ [m] := fun j hj hp => by
    have hp : 0 < va_up (pm_fl 0 Hp 61) m 1 j := hp
    by_cases e : j = m
    · simp [e]
    · simp only [va_up, if_neg e] at hp
      rw [ez j hj] at hp; omega
  obtain ⟨b0, s1, o1, l1, u1⟩ := sp_R_ok (t := sp_S3 k f lo hi m Hp Nx 0) (f := f) g3 g6 g7 g8 s0 (by show 0 < 1; omega) p0 (by show 1 * 59 ^ 1 < 2 ^ 40; decide)
  have l1 : (sp_S3 k f lo hi m Hp Nx 1).2.2 ≤ 1 * 59 ^ 1 := l1
  have p1 : ∀ j, j < 61 → 0 < (sp_S3 k f lo hi m Hp Nx 1).1 j → ∃ t, t ≤ 1 ∧ j = k * ((m - f - 1) / k - t) := fun j hj hp => by
    obtain ⟨i, i1, i2, i3⟩ := u1 j hj hp
    have e : i = m := by simpa using p0 i i1 i2
    subst e
    rcases i3 with ⟨z, -⟩ | ⟨-, a, a1, a2, a3⟩
    · omega
    · rcases sp_left_two k (by omega) g3 f (by omega) i i1 a a2 a1 with z | z
      · exact ⟨0, by omega, by rw [a3, z]; rfl⟩
      · exact ⟨1, by omega, by rw [a3, z]⟩
  generalize (m - f - 1) / k = Q at p1
  have q1 : ∀ j, j < 61 → 0 < (sp_S3 k f lo hi m Hp Nx 1).1 j → j ∈ [k * (Q - 0), k * (Q - 1)] := fun j hj hp => by
    obtain ⟨t, t1, t2⟩ := p1 j hj hp
    have : t = 0 ∨ t = 1 := by omega
    rcases this with rfl | rfl <;> simp [t2]
  obtain ⟨b1, s2, o2, l2, u2⟩ := sp_R_ok (t := sp_S3 k f lo hi m Hp Nx 1) (f := f) g3 g6 g7 g8 s1 o1 q1 (by show _ * 59 ^ 2 < 2 ^ 40; omega)
  have l2 : (sp_S3 k f lo hi m Hp Nx 2).2.2 ≤ (sp_S3 k f lo hi m Hp Nx 1).2.2 * 59 ^ 2 := l2
  have p2 : ∀ j, j < 61 → 0 < (sp_S3 k f lo hi m Hp Nx 2).1 j → ∃ t, t ≤ 2 ∧ j = k * (Q - 1 - t) := fun j hj hp => by
    obtain ⟨i, i1, i2, i3⟩ := u2 j hj hp
    exact sp_to_k g3 g4 g5 i1 i3 (p1 i i1 i2)
  have q2 : ∀ j, j < 61 → 0 < (sp_S3 k f lo hi m Hp Nx 2).1 j → j ∈ [k * (Q - 1 - 0), k * (Q - 1 - 1), k * (Q - 1 - 2)] := fun j hj hp => by
    obtain ⟨t, t1, t2⟩ := p2 j hj hp
    have : t = 0 ∨ t = 1 ∨ t = 2 := by omega
    rcases this with rfl | rfl | rfl <;> simp [t2]
  obtain ⟨b2, s3, o3, l3, u3⟩ := sp_R_ok (t := sp_S3 k f lo hi m Hp Nx 2) (f := f) g3 g6 g7 g8 s2 o2 q2 (by show _ * 59 ^ 3 < 2 ^ 40; omega)
  have l3 : (sp_S3 k f lo hi m Hp Nx 3).2.2 ≤ (sp_S3 k f lo hi m Hp Nx 2).2.2 * 59 ^ 3 := l3
  refine ⟨fun r hr => ?_, fun r hr => ?_⟩
  · have : r = 0 ∨ r = 1 ∨ r = 2 := by omega
    rcases this with rfl | rfl | rfl
    · exact b0
    · exact b1
    · exact b2
  · have : r = 0 ∨ r = 1 ∨ r = 2 ∨ r = 3 := by omega
    rcases this with rfl | rfl | rfl | rfl
    · exact ⟨s0, by show 0 < 1; omega, by show 1 < 2 ^ 40; omega⟩
    · exact ⟨s1, o1, by omega⟩
    · exact ⟨s2, o2, by omega⟩
    · exact ⟨s3, o3, by omega⟩
theorem sp_ww_sum {k : Nat} {Hp g : Nat → Nat} (hk : 2 ≤ k) : ∀ (i : Nat), i ≤ 61 → sp_sum (sp_ww k Hp g i) 31 = sp_sum g 31 + sp_sum Hp i
  | 0, _ => rfl
  | i + 1, hid => by
    have hdk : i / k ≤ 30 := Nat.le_trans (Nat.div_le_div_right (show i ≤ 60 by omega)) (Nat.div_le_div_left hk (by decide))
    show sp_sum (va_up (sp_ww k Hp g i) (i / k) (sp_ww k Hp g i (i / k) + Hp i)) 31 = sp_sum g 31 + (sp_sum Hp i + Hp i)
    rw [sp_sum_add (by omega), sp_ww_sum hk i (by omega)]
    omega

