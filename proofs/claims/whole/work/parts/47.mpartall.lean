/-! the fractions of a row stand for the weights w, in lowest terms of D -/
def m_US (f g : Nat → Int64) (w : Nat → Nat) (D n : Nat) : Prop := ∀ j, j < n → f j = lN (m_u (w j) D) ∧ g j = lN (m_l (w j) D)
def m_lf (k f lo n p : Nat) : Nat := if n < 2 then n else sp_left k f n (sp_first lo n + p)
def m_pn (lo hi n : Nat) : Nat := if n < 2 then 1 else sp_places lo hi n
def m_G (k f lo n e : Nat) (g : Nat → Nat) : Nat → (Nat → Nat)
  | 0 => g
  | c + 1 => va_up (m_G k f lo n e g c) (m_lf k f lo n c) (m_G k f lo n e g c (m_lf k f lo n c) + e)
theorem m_G_pl {k f lo n e : Nat} {g : Nat → Nat} (hn : ¬ n < 2) : ∀ c, sp_pl k f lo n e g c = m_G k f lo n e g c
  | 0 => rfl
  | c + 1 => by
    have el : m_lf k f lo n c = sp_left k f n (sp_first lo n + c) := if_neg hn
    show va_up (sp_pl k f lo n e g c) _ _ = va_up (m_G k f lo n e g c) (m_lf k f lo n c) _
    rw [el, m_G_pl hn c]
theorem m_G_ph {k f lo hi n w : Nat} {g : Nat → Nat} : sp_ph k f lo hi n w g = m_G k f lo n (w / m_pn lo hi n) g (m_pn lo hi n) := by
  unfold sp_ph
  by_cases e : n < 2
  · rw [if_pos e, show m_pn lo hi n = 1 from if_pos e, Nat.div_one]
    show _ = va_up g (m_lf k f lo n 0) (g (m_lf k f lo n 0) + w)
    rw [show m_lf k f lo n 0 = n from if_pos e]
  · rw [if_neg e, show m_pn lo hi n = sp_places lo hi n from if_neg e, m_G_pl e]
theorem m_lf_lt {k f lo hi n p : Nat} (hk : 2 ≤ k) (hl : 1 ≤ lo) (hh : lo ≤ hi) (hhi : hi ≤ 59) (hn : n < 61) (hp : p < m_pn lo hi n) : m_lf k f lo n p < 61 := by
  unfold m_lf m_pn at *
  by_cases e : n < 2
  · rw [if_pos e]; exact hn
  · rw [if_neg e] at hp ⊢
    have p1 := sp_places_in (n := n) (by omega) hl hh hhi
    have p2 := sp_first_in (lo := lo) (n := n) (by omega) hl
    exact Nat.lt_trans (sp_left_lt (by omega) (by omega) (by omega)) hn
theorem m_G_sum {k f lo hi n e : Nat} {g : Nat → Nat} (hk : 2 ≤ k) (hl : 1 ≤ lo) (hh : lo ≤ hi) (hhi : hi ≤ 59) (hn : n < 61) : ∀ c, c ≤ m_pn lo hi n → sp_sum (m_G k f lo n e g c) 61 = sp_sum g 61 + c * e
  | 0, _ => by show sp_sum g 61 = _; omega
  | c + 1, hc => by
    show sp_sum (va_up (m_G k f lo n e g c) _ (m_G k f lo n e g c _ + e)) 61 = _
    rw [sp_sum_add (m_lf_lt hk hl hh hhi hn (by omega)), m_G_sum hk hl hh hhi hn c (by omega), Nat.succ_mul]
    omega
theorem m_US_up {nu nl : Nat → Int64} {w : Nat → Nat} {D t v : Nat} (h : m_US nu nl w D 61) : m_US (vp_updL nu t (lN (m_u v D))) (vp_updL nl t (lN (m_l v D))) (va_up w t v) D 61 := fun j hj => by
  by_cases e : j = t
  · subst e; simp [vp_updL, va_up]
  · simp only [vp_updL, va_up, if_neg e]; exact h j hj
theorem m_ml_s {ml ml' : Nat → Int64} {x y : Int64} (h : m_ml ml ml') : m_ml ml (vp_updL (vp_updL ml' 3 x) 4 y) := fun q h3 h4 => by
  simp only [vp_updL, if_neg h4, if_neg h3]; exact h q h3 h4
set_option maxRecDepth 10000 in
set_option maxHeartbeats 4000000 in
theorem b_X10_partAll {h : pm_H} {mi : Nat → Int32} {ml : Nat → Int64} {A : Nat → Nat → Int32} {B : Nat → Nat → Int64} {c k f lo hi n p u l w0 e g D2 pn t : Nat} {nu nl : Nat → Int64} {o5 o6 o7 : Option Value} (hn : n < 61) (ht : t < 61) (hpn : 0 < pn ∧ pn < 60) (hpp : p < pn) (hu : B 52 n = lN u) (hu2 : u < 2 ^ 62) (hl : B 53 n = lN l) (hnu : nu t = lN (m_u w0 D2)) (hnl : nl t = lN (m_l w0 D2)) (hg : Nat.gcd pn u = g) (hcu : u / g = m_u e D2) (hdu : l * (pn / g) = m_l e D2) (hD : 0 < D2) (hD2 : D2 < 2 ^ 62) (hwe : w0 + e < 2 ^ 62) {F : Option Value → pm_H → Prop} {b9 : Nat × Nat} (K : ∀ g6, pm_V e_X10_partAll 66 [some (.ref 44), some (.int (nI c)), some (.int (nI n)), some (.int (nI pn)), some (.int (nI (p + 1))), some (.int (nI t)), some (.long (lN g6)), none] [] (pmM h mi (vp_updL (vp_updL ml 3 (lN (m_u (w0 + e) D2))) 4 (lN (m_l (w0 + e) D2))) A (va_up (va_up B 54 (vp_updL nu t (lN (m_u (w0 + e) D2)))) 55 (vp_updL nl t (lN (m_l (w0 + e) D2))))) b9 F) : pm_V e_X10_partAll 96 [some (.ref 44), some (.int (nI c)), some (.int (nI n)), some (.int (nI pn)), some (.int (nI p)), o5, o6, o7] [.int (nI t)] (pmM h mi ml A (va_up (va_up B 54 nu) 55 nl)) b9 F := by
  have hg1 : 0 < g := by rw [← hg]; exact Nat.gcd_pos_of_pos_left _ hpn.1
  have hg2 : g ≤ pn := by rw [← hg]; exact Nat.le_of_dvd hpn.1 (Nat.gcd_dvd_left _ _)
  refine r_istore_5 d_X10_partAll_96 (Nat.le_of_ble_eq_true rfl) (fun w hw => by cases hw <;> rfl) ?_
  refine r_aload_0 d_X10_partAll_98 ?_
  refine r_get d_X10_partAll_99 s10_ups rfl rfl ?_
  refine r_iload_2 d_X10_partAll_102 ?_
  refine r_lald d_X10_partAll_103 rfl (pm_ixN (by omega) (by omega)) ?_
  rw [show (va_up (va_up B 54 nu) 55 nl) 52 n = lN u from hu]
  refine r_iload_3 d_X10_partAll_104 ?_
  refine r_i2l d_X10_partAll_105 ?_
  rw [nI_l (n := pn) (by omega)]
  refine r_S2 d_X10_partAll_106 (c_X10_divisor (x := u) (y := pn) hu2 (by omega)) ⟨rfl, rfl⟩ (Nat.le_of_ble_eq_true rfl) ?_
  rw [hg]
  refine r_lstore_6 d_X10_partAll_109 (Nat.le_of_ble_eq_true rfl) (fun w hw => by cases hw <;> rfl) ?_
  refine r_aload_0 d_X10_partAll_111 ?_
  refine r_aload_0 d_X10_partAll_112 ?_
  refine r_get d_X10_partAll_113 s10_nextUps rfl rfl ?_
  refine r_iload_5 d_X10_partAll_116 ?_
  refine r_lald d_X10_partAll_118 rfl (pm_ixN (by omega) (by omega)) ?_
  rw [show (va_up (va_up B 54 nu) 55 nl) 54 t = lN (m_u w0 D2) from hnu]
  refine r_aload_0 d_X10_partAll_119 ?_
  refine r_get d_X10_partAll_120 s10_nextLowers rfl rfl ?_
  refine r_iload_5 d_X10_partAll_123 ?_
  refine r_lald d_X10_partAll_125 rfl (pm_ixN (by omega) (by omega)) ?_
  rw [show (va_up (va_up B 54 nu) 55 nl) 55 t = lN (m_l w0 D2) from hnl]
  refine r_aload_0 d_X10_partAll_126 ?_
  refine r_get d_X10_partAll_127 s10_ups rfl rfl ?_
  refine r_iload_2 d_X10_partAll_130 ?_
  refine r_lald d_X10_partAll_131 rfl (pm_ixN (by omega) (by omega)) ?_
  rw [show (va_up (va_up B 54 nu) 55 nl) 52 n = lN u from hu]
  refine r_lload_6 d_X10_partAll_132 ?_
  refine r_ldiv d_X10_partAll_134 (pm_lne0 (n := g) (by omega) (by omega)) ?_
  rw [pk_lDiv (a := u) (b := g) (by omega) (by omega) (by omega)]
  refine r_aload_0 d_X10_partAll_135 ?_
  refine r_get d_X10_partAll_136 s10_lowers rfl rfl ?_
  refine r_iload_2 d_X10_partAll_139 ?_
  refine r_lald d_X10_partAll_140 rfl (pm_ixN (by omega) (by omega)) ?_
  rw [show (va_up (va_up B 54 nu) 55 nl) 53 n = lN l from hl]
  refine r_iload_3 d_X10_partAll_141 ?_
  refine r_i2l d_X10_partAll_142 ?_
  rw [nI_l (n := pn) (by omega)]
  refine r_lload_6 d_X10_partAll_143 ?_
  refine r_ldiv d_X10_partAll_145 (pm_lne0 (n := g) (by omega) (by omega)) ?_
  rw [pk_lDiv (a := pn) (b := g) (by omega) (by omega) (by omega)]
  refine r_lmul d_X10_partAll_146 ?_
  rw [lN_mul]
  refine r_V4v d_X10_partAll_147 (c_X10_add (w := w0) (D := D2) (c := u / g) (d := l * (pn / g)) (e := e) hD hD2 (by rw [hdu]; exact m_l_dvd) (by rw [hcu, hdu]; exact m_ul) hwe) rfl rfl rfl ⟨rfl, rfl⟩ (Nat.le_of_ble_eq_true rfl) ?_
  refine r_aload_0 d_X10_partAll_150 ?_
  refine r_get d_X10_partAll_151 s10_nextUps rfl rfl ?_
  refine r_iload_5 d_X10_partAll_154 ?_
  refine r_aload_0 d_X10_partAll_156 ?_
  refine r_get d_X10_partAll_157 s10_sumUp rfl rfl ?_
  refine r_last d_X10_partAll_160 rfl (pm_ixN (by omega) (by omega)) ?_
  rw [pmM_nextUps, m_auc _ 54 55 _ _ _ (by decide), show (va_up (va_up B 54 nu) 55 nl) 54 = nu from rfl]
  refine r_aload_0 d_X10_partAll_161 ?_
  refine r_get d_X10_partAll_162 s10_nextLowers rfl rfl ?_
  refine r_iload_5 d_X10_partAll_165 ?_
  refine r_aload_0 d_X10_partAll_167 ?_
  refine r_get d_X10_partAll_168 s10_sumLow rfl rfl ?_
  refine r_last d_X10_partAll_171 rfl (pm_ixN (by omega) (by omega)) ?_
  rw [pmM_nextLowers, m_au3]
  refine r_iinc_4 d_X10_partAll_172 (Nat.le_of_ble_eq_true rfl) (fun w hw => by cases hw <;> rfl) ?_
  rw [nI_1]
  refine r_goto d_X10_partAll_175 ?_
  exact K g
set_option maxRecDepth 10000 in
set_option maxHeartbeats 4000000 in
theorem l1_X10_partAll {h : pm_H} {mi : Nat → Int32} {ml : Nat → Int64} {A : Nat → Nat → Int32} {B : Nat → Nat → Int64} {c k f lo hi n u l e g D2 pn : Nat} {g0 : Nat → Nat} (hc : c < 10) (hs : m_sk A c k f lo hi) (hn : n < 61) (hpe : m_pn lo hi n = pn) (hpn : 0 < pn ∧ pn < 60) (hu : B 52 n = lN u) (hu2 : u < 2 ^ 62) (hl : B 53 n = lN l) (hg : Nat.gcd pn u = g) (hcu : u / g = m_u e D2) (hdu : l * (pn / g) = m_l e D2) (hD : 0 < D2) (hD2 : D2 < 2 ^ 62) (hsm : sp_sum g0 61 + pn * e < 2 ^ 62) {F : Option Value → pm_H → Prop} {b9 : Nat × Nat} (K : ∀ mx nu nl o5 o6 o7, m_ml ml mx → m_US nu nl (m_G k f lo n e g0 pn) D2 61 → pm_V e_X10_partAll 178 [some (.ref 44), some (.int (nI c)), some (.int (nI n)), some (.int (nI pn)), some (.int (nI pn)), o5, o6, o7] [] (pmM h mi mx A (va_up (va_up B 54 nu) 55 nl)) b9 F) : ∀ (d p : Nat) (mx nu nl : Nat → Int64) (o5 o6 o7 : Option Value), p + d = pn → m_ml ml mx → m_US nu nl (m_G k f lo n e g0 p) D2 61 → pm_V e_X10_partAll 66 [some (.ref 44), some (.int (nI c)), some (.int (nI n)), some (.int (nI pn)), some (.int (nI p)), o5, o6, o7] [] (pmM h mi mx A (va_up (va_up B 54 nu) 55 nl)) b9 F := by
  have hs0 := hs
  obtain ⟨k1, k2, k3, k4, k5, k6, -⟩ := hs
  intro d
  induction d with
  | zero =>
    intro p mx nu nl o5 o6 o7 hid hm hU
    obtain rfl : p = pn := by omega
    refine r_iload_4 d_X10_partAll_66 ?_
    refine r_iload_3 d_X10_partAll_68 ?_
    refine r_icmp_ge d_X10_partAll_69 (fun c69 => ?_) (fun c69 => ?_)
    · -- taken at 69
      have c69 : p ≤ p := (nI_leI (a := p) (b := p) (by omega) (by omega)).mp c69
      exact K _ _ _ _ _ _ hm hU
    · -- not taken at 69
      have c69 : ¬ p ≤ p := fun zz9 => c69 ((nI_leI (a := p) (b := p) (by omega) (by omega)).mpr zz9)
      exfalso; omega
  | succ d ih =>
    intro p mx nu nl o5 o6 o7 hid hm hU
    have ht := m_lf_lt (k := k) (f := f) (p := p) k1 k4 k5 k6 hn (by omega)
    have hsg := m_G_sum (k := k) (f := f) (e := e) (g := g0) k1 k4 k5 k6 hn p (by omega)
    have hge := sp_sum_ge (f := m_G k f lo n e g0 p) ht
    have hpe2 : p * e + e ≤ pn * e := by rw [← Nat.succ_mul]; exact Nat.mul_le_mul_right _ (by omega)
    obtain ⟨hU1, hU2⟩ := hU _ ht
    have KB := fun b9 F => b_X10_partAll (h := h) (mi := mi) (ml := mx) (A := A) (B := B) (c := c) (k := k) (f := f) (lo := lo) (hi := hi) (p := p) (o5 := o5) (o6 := o6) (o7 := o7) (b9 := b9) (F := F) hn ht hpn (by omega) hu hu2 hl hU1 hU2 hg hcu hdu hD hD2 (by omega)
    have KB := KB b9 F (fun g6 => ih (p + 1) _ _ _ _ _ _ (by omega) (m_ml_s hm) (m_US_up hU))
    refine r_iload_4 d_X10_partAll_66 ?_
    refine r_iload_3 d_X10_partAll_68 ?_
    refine r_icmp_ge d_X10_partAll_69 (fun c69 => ?_) (fun c69 => ?_)
    · -- taken at 69
      have c69 : pn ≤ p := (nI_leI (a := pn) (b := p) (by omega) (by omega)).mp c69
      exfalso; omega
    · -- not taken at 69
      have c69 : ¬ pn ≤ p := fun zz9 => c69 ((nI_leI (a := pn) (b := p) (by omega) (by omega)).mpr zz9)
      refine r_iload_2 d_X10_partAll_72 ?_
      refine r_push (v := nI 2) d_X10_partAll_73 ?_
      refine r_icmp_ge d_X10_partAll_74 (fun c74 => ?_) (fun c74 => ?_)
      · -- taken at 74
        have c74 : 2 ≤ n := (nI_leI (a := 2) (b := n) (by omega) (by omega)).mp c74
        refine r_aload_0 d_X10_partAll_81 ?_
        refine r_iload_1 d_X10_partAll_82 ?_
        refine r_iload_2 d_X10_partAll_83 ?_
        refine r_aload_0 d_X10_partAll_84 ?_
        refine r_iload_1 d_X10_partAll_85 ?_
        refine r_iload_2 d_X10_partAll_86 ?_
        refine r_V2 d_X10_partAll_87 (c_X10_first hc hs0 ⟨by omega, by omega⟩) rfl rfl rfl ⟨rfl, rfl⟩ (Nat.le_of_ble_eq_true rfl) ?_
        refine r_iload_4 d_X10_partAll_90 ?_
        refine r_iadd d_X10_partAll_92 ?_
        rw [nI_add]
        have p1 := sp_places_in (n := n) (by omega) k4 k5 k6
        have p2 := sp_first_in (lo := lo) (n := n) (by omega) k4
        have p3 : m_pn lo hi n = sp_places lo hi n := if_neg (by omega)
        refine r_V3 d_X10_partAll_93 (c_X10_left hc hs0 (by omega) ⟨by omega, by omega⟩) rfl rfl rfl ⟨rfl, rfl⟩ (Nat.le_of_ble_eq_true rfl) ?_
        first
        | (rw [show m_lf k f lo n p = n from if_pos (by omega)] at KB; exact KB)
        | (rw [show m_lf k f lo n p = sp_left k f n (sp_first lo n + p) from if_neg (by omega)] at KB; exact KB)
      · -- not taken at 74
        have c74 : ¬ 2 ≤ n := fun zz9 => c74 ((nI_leI (a := 2) (b := n) (by omega) (by omega)).mpr zz9)
        refine r_iload_2 d_X10_partAll_77 ?_
        refine r_goto d_X10_partAll_78 ?_
        first
        | (rw [show m_lf k f lo n p = n from if_pos (by omega)] at KB; exact KB)
        | (rw [show m_lf k f lo n p = sp_left k f n (sp_first lo n + p) from if_neg (by omega)] at KB; exact KB)
set_option maxRecDepth 10000 in
set_option maxHeartbeats 4000000 in
theorem l2_X10_partAll {h : pm_H} {mi : Nat → Int32} {ml : Nat → Int64} {A : Nat → Nat → Int32} {B : Nat → Nat → Int64} {c k f lo hi D sh : Nat} {g0 Hp : Nat → Nat} (hc : c < 10) (hs : m_sk A c k f lo hi) (hU : m_US (B 52) (B 53) Hp D 61) (hD : 0 < D) (hsh : 0 < sh) (hD2 : D * sh < 2 ^ 62) (hsum : sp_sum Hp 61 = D) (hg0 : sp_sum g0 61 = 0) (hdv : ∀ n, n < 61 → 2 ≤ n → 0 < Hp n → sp_places lo hi n ∣ sh) {F : Option Value → pm_H → Prop} {b9 : Nat × Nat} (K : ∀ mx nu nl o3 o4 o5 o6 o7, m_ml ml mx → m_US nu nl (sp_pp k f lo hi sh Hp g0 61) (D * sh) 61 → pm_V e_X10_partAll 184 [some (.ref 44), some (.int (nI c)), some (.int (nI 61)), o3, o4, o5, o6, o7] [] (pmM h mi mx A (va_up (va_up B 54 nu) 55 nl)) b9 F) : ∀ (d n : Nat) (mx nu nl : Nat → Int64) (o3 o4 o5 o6 o7 : Option Value), n + d = 61 → m_ml ml mx → m_US nu nl (sp_pp k f lo hi sh Hp g0 n) (D * sh) 61 → pm_V e_X10_partAll 30 [some (.ref 44), some (.int (nI c)), some (.int (nI n)), o3, o4, o5, o6, o7] [] (pmM h mi mx A (va_up (va_up B 54 nu) 55 nl)) b9 F := by
  have hs0 := hs
  obtain ⟨k1, k2, k3, k4, k5, k6, -⟩ := hs
  intro d
  induction d with
  | zero =>
    intro n mx nu nl o3 o4 o5 o6 o7 hid hm hV
    obtain rfl : n = 61 := by omega
    refine r_iload_2 d_X10_partAll_30 ?_
    refine r_push (v := nI 60) d_X10_partAll_31 ?_
    refine r_icmp_gt d_X10_partAll_33 (fun c33 => ?_) (fun c33 => absurd (by decide) c33)
    clear c33
    exact K _ _ _ _ _ _ _ _ hm hV
  | succ d ih =>
    intro n mx nu nl o3 o4 o5 o6 o7 hid hm hV
    obtain ⟨u1, u2⟩ := hU n (by omega)
    have hup := m_u_pos (w := Hp n) hD
    have hun := m_u_le (w := Hp n) (D := D)
    have hHn := sp_sum_ge (f := Hp) (k := n) (n := 61) (by omega)
    have hDs : D * 1 ≤ D * sh := Nat.mul_le_mul_left _ hsh
    have hpp : (sp_pp k f lo hi sh Hp g0 (n + 1)) = if 0 < Hp n then sp_ph k f lo hi n (Hp n * sh) (sp_pp k f lo hi sh Hp g0 n) else (sp_pp k f lo hi sh Hp g0 n) := rfl
    have hns := sp_sum_mo (f := Hp) (m := n + 1) (n := 61) (by omega)
    have hns : sp_sum Hp n + Hp n ≤ D := by rw [← hsum]; exact hns
    have hns2 : sp_sum Hp n * sh + Hp n * sh ≤ D * sh := by rw [← Nat.add_mul]; exact Nat.mul_le_mul_right _ hns
    have hps := sp_pp_sum (f := f) (g := g0) k1 k4 k5 k6 hdv n (by omega)
    obtain ⟨pn, hpe⟩ : ∃ pn, m_pn lo hi n = pn := ⟨_, rfl⟩
    have hpn : 0 < pn ∧ pn < 60 ∧ (0 < Hp n → pn ∣ sh) := by
      rw [← hpe]; unfold m_pn
      by_cases e : n < 2
      · rw [if_pos e]; exact ⟨by omega, by omega, fun _ => Nat.one_dvd _⟩
      · rw [if_neg e]
        have p1 := sp_places_in (n := n) (by omega) k4 k5 k6
        exact ⟨by omega, by omega, hdv n (by omega) (by omega)⟩
    have K62 : 0 < m_u (Hp n) D → pm_V e_X10_partAll 62 [some (.ref 44), some (.int (nI c)), some (.int (nI n)), o3, o4, o5, o6, o7] [.int (nI pn)] (pmM h mi mx A (va_up (va_up B 54 nu) 55 nl)) b9 F := fun hup0 => by
      refine r_istore_3 d_X10_partAll_62 (Nat.le_of_ble_eq_true rfl) (fun w hw => by cases hw <;> rfl) ?_
      refine r_push (v := nI 0) d_X10_partAll_63 ?_
      refine r_istore_4 d_X10_partAll_64 (Nat.le_of_ble_eq_true rfl) (fun w hw => by cases hw <;> rfl) ?_
      have hHp := hup.mp (by omega)
      obtain ⟨q1, q2⟩ := m_part (w := Hp n) hD hpn.1 (hpn.2.2 hHp) hsh
      have q3 : pn * (Hp n * sh / pn) = Hp n * sh := Nat.mul_div_cancel' (Nat.dvd_trans (hpn.2.2 hHp) (Nat.dvd_mul_left _ _))
      rw [if_pos hHp, m_G_ph, hpe] at hpp
      refine l1_X10_partAll (g0 := sp_pp k f lo hi sh Hp g0 n) (ml := mx) hc hs0 (by omega) hpe ⟨hpn.1, hpn.2.1⟩ u1 (by omega) u2 rfl q1 q2 (Nat.mul_pos hD hsh) hD2 (by omega) (fun mx1 nu1 nl1 o8 o9 o10 hm1 hU1 => ?_) pn 0 _ _ _ _ _ _ (by omega) (fun q _ _ => rfl) hV
      refine r_iinc_2 d_X10_partAll_178 (Nat.le_of_ble_eq_true rfl) (fun w hw => by cases hw <;> rfl) ?_
      rw [nI_1]
      refine r_goto d_X10_partAll_181 ?_
      exact ih (n + 1) _ _ _ _ _ _ _ _ (by omega) (fun q h3 h4 => (hm1 q h3 h4).trans (hm q h3 h4)) (by rw [hpp]; exact hU1)
    refine r_iload_2 d_X10_partAll_30 ?_
    refine r_push (v := nI 60) d_X10_partAll_31 ?_
    refine r_icmp_gt d_X10_partAll_33 (fun c33 => ?_) (fun c33 => ?_)
    · -- taken at 33
      have c33 : 60 < n := (nI_ltI (a := 60) (b := n) (by omega) (by omega)).mp c33
      exfalso; omega
    · -- not taken at 33
      have c33 : ¬ 60 < n := fun zz9 => c33 ((nI_ltI (a := 60) (b := n) (by omega) (by omega)).mpr zz9)
      refine r_aload_0 d_X10_partAll_36 ?_
      refine r_get d_X10_partAll_37 s10_ups rfl rfl ?_
      refine r_iload_2 d_X10_partAll_40 ?_
      refine r_lald d_X10_partAll_41 rfl (pm_ixN (by omega) (by omega)) ?_
      rw [show (va_up (va_up B 54 nu) 55 nl) 52 n = lN (m_u (Hp n) D) from u1]
      refine r_pushl (v := lN 0) d_X10_partAll_42 ?_
      refine r_lcmp d_X10_partAll_43 ?_
      refine r_if_le d_X10_partAll_44 (fun c44 => ?_) (fun c44 => ?_)
      · -- taken at 44
        have c44 : (m_u (Hp n) D) ≤ 0 := ((lg_cmp_le (lN ((m_u (Hp n) D))) (lN (0))).trans (pk_lLE (a := (m_u (Hp n) D)) (b := 0) (by omega) (by omega))).mp c44
        have hHp : ¬ 0 < Hp n := fun z => absurd (hup.mpr z) (by omega)
        rw [if_neg hHp] at hpp
        refine r_iinc_2 d_X10_partAll_178 (Nat.le_of_ble_eq_true rfl) (fun w hw => by cases hw <;> rfl) ?_
        rw [nI_1]
        refine r_goto d_X10_partAll_181 ?_
        exact ih (n + 1) _ _ _ _ _ _ _ _ (by omega) hm (by rw [hpp]; exact hV)
      · -- not taken at 44
        have c44 : ¬ (m_u (Hp n) D) ≤ 0 := fun zz9 => c44 (((lg_cmp_le (lN ((m_u (Hp n) D))) (lN (0))).trans (pk_lLE (a := (m_u (Hp n) D)) (b := 0) (by omega) (by omega))).mpr zz9)
        refine r_iload_2 d_X10_partAll_47 ?_
        refine r_push (v := nI 2) d_X10_partAll_48 ?_
        refine r_icmp_ge d_X10_partAll_49 (fun c49 => ?_) (fun c49 => ?_)
        · -- taken at 49
          have c49 : 2 ≤ n := (nI_leI (a := 2) (b := n) (by omega) (by omega)).mp c49
          refine r_aload_0 d_X10_partAll_56 ?_
          refine r_iload_1 d_X10_partAll_57 ?_
          refine r_iload_2 d_X10_partAll_58 ?_
          refine r_V2 d_X10_partAll_59 (c_X10_places hc hs0 ⟨by omega, by omega⟩) rfl rfl rfl ⟨rfl, rfl⟩ (Nat.le_of_ble_eq_true rfl) ?_
          first | (rw [show pn = 1 from (by rw [← hpe]; exact if_pos (by omega))] at K62; exact K62 (by omega)) | (rw [show pn = sp_places lo hi n from (by rw [← hpe]; exact if_neg (by omega))] at K62; exact K62 (by omega))
        · -- not taken at 49
          have c49 : ¬ 2 ≤ n := fun zz9 => c49 ((nI_leI (a := 2) (b := n) (by omega) (by omega)).mpr zz9)
          refine r_push (v := nI 1) d_X10_partAll_52 ?_
          refine r_goto d_X10_partAll_53 ?_
          first | (rw [show pn = 1 from (by rw [← hpe]; exact if_pos (by omega))] at K62; exact K62 (by omega)) | (rw [show pn = sp_places lo hi n from (by rw [← hpe]; exact if_neg (by omega))] at K62; exact K62 (by omega))
