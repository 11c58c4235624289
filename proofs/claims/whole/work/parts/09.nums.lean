/-! numbers, and what a parting leaves -/
theorem pm_lne0 {n : Nat} (h0 : 0 < n) (h : n < 2 ^ 63) : ¬ lN n = 0 := fun e => by
  have := (pk_lEQ (a := n) (b := 0) h (by omega)).mp e
  omega
theorem pm_ix_nI {j j' n : Nat} (h : pm_ix (nI j) j' n) (hj : j < 2 ^ 31) : j' = j := by rw [← h.2.1, nI_clamp hj]
def sp_rest (k x : Nat) : Nat := if x = 0 then 0 else if x % k = 0 then k else x % k
def sp_left (k f n a : Nat) : Nat := a - sp_rest k a + (n - f - a) - sp_rest k (n - f - a)
def sp_first (lo n : Nat) : Nat := if lo < n then lo else n - 1
def sp_last (hi n : Nat) : Nat := if hi < n then hi else n - 1
def sp_places (lo hi n : Nat) : Nat := sp_last hi n - sp_first lo n + 1
theorem sp_rest_le {k x : Nat} (hk : 0 < k) : sp_rest k x ≤ x := by
  unfold sp_rest
  split
  · omega
  · split
    · next h1 h2 =>
      rcases Nat.lt_or_ge x k with z | z
      · rw [Nat.mod_eq_of_lt z] at h2; omega
      · exact z
    · exact Nat.mod_le x k
theorem sp_rest_lek {k x : Nat} (hk : 0 < k) : sp_rest k x ≤ k := by
  unfold sp_rest
  split
  · omega
  · split
    · omega
    · exact Nat.le_of_lt (Nat.mod_lt x hk)
theorem sp_rest_pos {k x : Nat} (hk : 0 < k) (hx : 0 < x) : 0 < sp_rest k x := by
  unfold sp_rest
  split
  · omega
  · split <;> omega
theorem sp_left_lt {k f n a : Nat} (hk : 0 < k) (ha : 1 ≤ a) (han : a < n) : sp_left k f n a < n := by
  have h1 := sp_rest_le (k := k) (x := a) hk
  have h2 := sp_rest_le (k := k) (x := n - f - a) hk
  have h3 := sp_rest_pos (k := k) (x := a) hk (by omega)
  unfold sp_left
  omega
theorem sp_first_in {lo n : Nat} (hn : 2 ≤ n) (hl : 1 ≤ lo) : 1 ≤ sp_first lo n ∧ sp_first lo n < n := by
  unfold sp_first
  split <;> omega
theorem sp_last_in {hi n : Nat} (hn : 2 ≤ n) (hl : 1 ≤ hi) : 1 ≤ sp_last hi n ∧ sp_last hi n < n := by
  unfold sp_last
  split <;> omega
theorem sp_fl {lo hi n : Nat} (h : lo ≤ hi) : sp_first lo n ≤ sp_last hi n := by
  unfold sp_first sp_last
  split <;> split <;> omega
theorem sp_places_in {lo hi n : Nat} (hn : 2 ≤ n) (hl : 1 ≤ lo) (hh : lo ≤ hi) (hhi : hi ≤ 59) : 1 ≤ sp_places lo hi n ∧ sp_places lo hi n ≤ 59 ∧ sp_first lo n + sp_places lo hi n ≤ n := by
  have h1 := sp_first_in (lo := lo) hn hl
  have h2 := sp_last_in (hi := hi) hn (by omega)
  have h3 := sp_fl (n := n) hh
  have h4 : sp_last hi n ≤ 59 := by unfold sp_last; split <;> omega
  unfold sp_places
  omega
/-- the bounds of a caster's numbers -/
def pm_ok (n k f lo hi : Nat) : Prop := 4 ≤ n ∧ n ≤ 60 ∧ 2 ≤ k ∧ k ≤ 8 ∧ f ≤ 1 ∧ 1 ≤ lo ∧ lo ≤ hi ∧ hi ≤ 59
/-- a caster of stalks at a: of either class -/
def pm_sk (h : pm_H) (a n k f lo hi : Nat) : Prop := (h.2 a = some (.inr (6, [.int (nI n), .int (nI k), .int (nI f)])) ∧ lo = 1 ∧ hi = 59) ∨ h.2 a = some (.inr (7, [.int (nI n), .int (nI k), .int (nI f), .int (nI lo), .int (nI hi)]))
