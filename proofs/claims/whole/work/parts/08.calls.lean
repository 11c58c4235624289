/-- a contract that tells the answer and the heap -/
abbrev pm_Cv (E : pm_E) (av : List Value) (h : pm_H) (x : Value) (h' : pm_H) : Prop := pm_Cl E av h (fun v h1 => v = some x ∧ h1 = h')
abbrev pm_C0 (E : pm_E) (av : List Value) (h : pm_H) (h' : pm_H) : Prop := pm_Cl E av h (fun v h1 => v = none ∧ h1 = h')
section PC
variable {E : pm_E} {pc q : Nat} {L : List (Option Value)} {st : List Value} {h h' : pm_H} {b : Nat × Nat} {F : Option Value → pm_H → Prop} {ad : Nat} {E' : pm_E} {C : String} {ci : Nat} {r : vw_C} {fs : List Value} {v : Value} {P : Option Value → pm_H → Prop}
theorem r_V0 (hd : pm_kV E pc E' C 0 q) (hC : pm_Cv E' [.ref ad] h v h') (hh : h.2 ad = some (.inr (ci, fs))) (hci : vwCl[ci]? = some r) (hrc : r.1 = C) (h0 : (pm_rm E').cells = 0 ∧ (pm_rm E').slots = 0) (hcat : (st.map fun v => v.category).sum ≤ 8) (K : pm_V E q L (v :: st) h' b F) : pm_V E pc L (.ref ad :: st) h b F := r_callV (As := []) hd hci hrc hh rfl rfl hcat h0 hC (fun _ _ z => by obtain ⟨rfl, rfl⟩ := z; exact K)
theorem r_V0v (hd : pm_kV E pc E' C 0 q) (hC : pm_C0 E' [.ref ad] h h') (hh : h.2 ad = some (.inr (ci, fs))) (hci : vwCl[ci]? = some r) (hrc : r.1 = C) (h0 : (pm_rm E').cells = 0 ∧ (pm_rm E').slots = 0) (hcat : (st.map fun v => v.category).sum ≤ 8) (K : pm_V E q L st h' b F) : pm_V E pc L (.ref ad :: st) h b F := r_callV (As := []) hd hci hrc hh rfl rfl hcat h0 hC (fun _ _ z => by obtain ⟨rfl, rfl⟩ := z; exact K)
theorem r_V0p (hd : pm_kV E pc E' C 0 q) (hC : pm_Cl E' [.ref ad] h P) (hh : h.2 ad = some (.inr (ci, fs))) (hci : vwCl[ci]? = some r) (hrc : r.1 = C) (h0 : (pm_rm E').cells = 0 ∧ (pm_rm E').slots = 0) (hcat : (st.map fun v => v.category).sum ≤ 8) (K : ∀ v h1, P v h1 → pm_V E q L (v.toList ++ st) h1 b F) : pm_V E pc L (.ref ad :: st) h b F := r_callV (As := []) hd hci hrc hh rfl rfl hcat h0 hC K
theorem r_S0 (hd : pm_kS E pc E' 0 q) (hC : pm_Cv E' [] h v h') (h0 : (pm_rm E').cells = 0 ∧ (pm_rm E').slots = 0) (hcat : (st.map fun v => v.category).sum ≤ 8) (K : pm_V E q L (v :: st) h' b F) : pm_V E pc L (st) h b F := r_callS (As := []) hd rfl rfl hcat h0 hC (fun _ _ z => by obtain ⟨rfl, rfl⟩ := z; exact K)
theorem r_S0v (hd : pm_kS E pc E' 0 q) (hC : pm_C0 E' [] h h') (h0 : (pm_rm E').cells = 0 ∧ (pm_rm E').slots = 0) (hcat : (st.map fun v => v.category).sum ≤ 8) (K : pm_V E q L st h' b F) : pm_V E pc L (st) h b F := r_callS (As := []) hd rfl rfl hcat h0 hC (fun _ _ z => by obtain ⟨rfl, rfl⟩ := z; exact K)
theorem r_I0v {b' : Nat × Nat} (hd : pm_kI E pc E' 0 q) (hC : pm_C0 E' [.ref ad] h h') (hb1 : b'.1 + (pm_rm E').cells = b.1) (hb2 : b'.2 + (pm_rm E').slots = b.2) (hcat : (st.map fun v => v.category).sum ≤ 8) (K : pm_V E q L st h' b' F) : pm_V E pc L (.ref ad :: st) h b F := r_callIa (As := []) hd rfl rfl hcat (Nat.le_of_eq hb1) (Nat.le_of_eq hb2) hC (fun _ _ z => by obtain ⟨rfl, rfl⟩ := z; exact K)
theorem r_V1 {x1 : Value} (hd : pm_kV E pc E' C 1 q) (hC : pm_Cv E' [.ref ad, x1] h v h') (hh : h.2 ad = some (.inr (ci, fs))) (hci : vwCl[ci]? = some r) (hrc : r.1 = C) (h0 : (pm_rm E').cells = 0 ∧ (pm_rm E').slots = 0) (hcat : (st.map fun v => v.category).sum ≤ 8) (K : pm_V E q L (v :: st) h' b F) : pm_V E pc L (x1 :: .ref ad :: st) h b F := r_callV (As := [x1]) hd hci hrc hh rfl rfl hcat h0 hC (fun _ _ z => by obtain ⟨rfl, rfl⟩ := z; exact K)
theorem r_V1v {x1 : Value} (hd : pm_kV E pc E' C 1 q) (hC : pm_C0 E' [.ref ad, x1] h h') (hh : h.2 ad = some (.inr (ci, fs))) (hci : vwCl[ci]? = some r) (hrc : r.1 = C) (h0 : (pm_rm E').cells = 0 ∧ (pm_rm E').slots = 0) (hcat : (st.map fun v => v.category).sum ≤ 8) (K : pm_V E q L st h' b F) : pm_V E pc L (x1 :: .ref ad :: st) h b F := r_callV (As := [x1]) hd hci hrc hh rfl rfl hcat h0 hC (fun _ _ z => by obtain ⟨rfl, rfl⟩ := z; exact K)
theorem r_V1p {x1 : Value} (hd : pm_kV E pc E' C 1 q) (hC : pm_Cl E' [.ref ad, x1] h P) (hh : h.2 ad = some (.inr (ci, fs))) (hci : vwCl[ci]? = some r) (hrc : r.1 = C) (h0 : (pm_rm E').cells = 0 ∧ (pm_rm E').slots = 0) (hcat : (st.map fun v => v.category).sum ≤ 8) (K : ∀ v h1, P v h1 → pm_V E q L (v.toList ++ st) h1 b F) : pm_V E pc L (x1 :: .ref ad :: st) h b F := r_callV (As := [x1]) hd hci hrc hh rfl rfl hcat h0 hC K
theorem r_S1 {x1 : Value} (hd : pm_kS E pc E' 1 q) (hC : pm_Cv E' [x1] h v h') (h0 : (pm_rm E').cells = 0 ∧ (pm_rm E').slots = 0) (hcat : (st.map fun v => v.category).sum ≤ 8) (K : pm_V E q L (v :: st) h' b F) : pm_V E pc L (x1 :: st) h b F := r_callS (As := [x1]) hd rfl rfl hcat h0 hC (fun _ _ z => by obtain ⟨rfl, rfl⟩ := z; exact K)
theorem r_S1v {x1 : Value} (hd : pm_kS E pc E' 1 q) (hC : pm_C0 E' [x1] h h') (h0 : (pm_rm E').cells = 0 ∧ (pm_rm E').slots = 0) (hcat : (st.map fun v => v.category).sum ≤ 8) (K : pm_V E q L st h' b F) : pm_V E pc L (x1 :: st) h b F := r_callS (As := [x1]) hd rfl rfl hcat h0 hC (fun _ _ z => by obtain ⟨rfl, rfl⟩ := z; exact K)
theorem r_I1v {x1 : Value} {b' : Nat × Nat} (hd : pm_kI E pc E' 1 q) (hC : pm_C0 E' [.ref ad, x1] h h') (hb1 : b'.1 + (pm_rm E').cells = b.1) (hb2 : b'.2 + (pm_rm E').slots = b.2) (hcat : (st.map fun v => v.category).sum ≤ 8) (K : pm_V E q L st h' b' F) : pm_V E pc L (x1 :: .ref ad :: st) h b F := r_callIa (As := [x1]) hd rfl rfl hcat (Nat.le_of_eq hb1) (Nat.le_of_eq hb2) hC (fun _ _ z => by obtain ⟨rfl, rfl⟩ := z; exact K)
theorem r_V2 {x1 x2 : Value} (hd : pm_kV E pc E' C 2 q) (hC : pm_Cv E' [.ref ad, x1, x2] h v h') (hh : h.2 ad = some (.inr (ci, fs))) (hci : vwCl[ci]? = some r) (hrc : r.1 = C) (h0 : (pm_rm E').cells = 0 ∧ (pm_rm E').slots = 0) (hcat : (st.map fun v => v.category).sum ≤ 8) (K : pm_V E q L (v :: st) h' b F) : pm_V E pc L (x2 :: x1 :: .ref ad :: st) h b F := r_callV (As := [x1, x2]) hd hci hrc hh rfl rfl hcat h0 hC (fun _ _ z => by obtain ⟨rfl, rfl⟩ := z; exact K)
theorem r_V2v {x1 x2 : Value} (hd : pm_kV E pc E' C 2 q) (hC : pm_C0 E' [.ref ad, x1, x2] h h') (hh : h.2 ad = some (.inr (ci, fs))) (hci : vwCl[ci]? = some r) (hrc : r.1 = C) (h0 : (pm_rm E').cells = 0 ∧ (pm_rm E').slots = 0) (hcat : (st.map fun v => v.category).sum ≤ 8) (K : pm_V E q L st h' b F) : pm_V E pc L (x2 :: x1 :: .ref ad :: st) h b F := r_callV (As := [x1, x2]) hd hci hrc hh rfl rfl hcat h0 hC (fun _ _ z => by obtain ⟨rfl, rfl⟩ := z; exact K)
theorem r_V2p {x1 x2 : Value} (hd : pm_kV E pc E' C 2 q) (hC : pm_Cl E' [.ref ad, x1, x2] h P) (hh : h.2 ad = some (.inr (ci, fs))) (hci : vwCl[ci]? = some r) (hrc : r.1 = C) (h0 : (pm_rm E').cells = 0 ∧ (pm_rm E').slots = 0) (hcat : (st.map fun v => v.category).sum ≤ 8) (K : ∀ v h1, P v h1 → pm_V E q L (v.toList ++ st) h1 b F) : pm_V E pc L (x2 :: x1 :: .ref ad :: st) h b F := r_callV (As := [x1, x2]) hd hci hrc hh rfl rfl hcat h0 hC K
theorem r_S2 {x1 x2 : Value} (hd : pm_kS E pc E' 2 q) (hC : pm_Cv E' [x1, x2] h v h') (h0 : (pm_rm E').cells = 0 ∧ (pm_rm E').slots = 0) (hcat : (st.map fun v => v.category).sum ≤ 8) (K : pm_V E q L (v :: st) h' b F) : pm_V E pc L (x2 :: x1 :: st) h b F := r_callS (As := [x1, x2]) hd rfl rfl hcat h0 hC (fun _ _ z => by obtain ⟨rfl, rfl⟩ := z; exact K)
theorem r_S2v {x1 x2 : Value} (hd : pm_kS E pc E' 2 q) (hC : pm_C0 E' [x1, x2] h h') (h0 : (pm_rm E').cells = 0 ∧ (pm_rm E').slots = 0) (hcat : (st.map fun v => v.category).sum ≤ 8) (K : pm_V E q L st h' b F) : pm_V E pc L (x2 :: x1 :: st) h b F := r_callS (As := [x1, x2]) hd rfl rfl hcat h0 hC (fun _ _ z => by obtain ⟨rfl, rfl⟩ := z; exact K)
theorem r_I2v {x1 x2 : Value} {b' : Nat × Nat} (hd : pm_kI E pc E' 2 q) (hC : pm_C0 E' [.ref ad, x1, x2] h h') (hb1 : b'.1 + (pm_rm E').cells = b.1) (hb2 : b'.2 + (pm_rm E').slots = b.2) (hcat : (st.map fun v => v.category).sum ≤ 8) (K : pm_V E q L st h' b' F) : pm_V E pc L (x2 :: x1 :: .ref ad :: st) h b F := r_callIa (As := [x1, x2]) hd rfl rfl hcat (Nat.le_of_eq hb1) (Nat.le_of_eq hb2) hC (fun _ _ z => by obtain ⟨rfl, rfl⟩ := z; exact K)
theorem r_V3 {x1 x2 x3 : Value} (hd : pm_kV E pc E' C 3 q) (hC : pm_Cv E' [.ref ad, x1, x2, x3] h v h') (hh : h.2 ad = some (.inr (ci, fs))) (hci : vwCl[ci]? = some r) (hrc : r.1 = C) (h0 : (pm_rm E').cells = 0 ∧ (pm_rm E').slots = 0) (hcat : (st.map fun v => v.category).sum ≤ 8) (K : pm_V E q L (v :: st) h' b F) : pm_V E pc L (x3 :: x2 :: x1 :: .ref ad :: st) h b F := r_callV (As := [x1, x2, x3]) hd hci hrc hh rfl rfl hcat h0 hC (fun _ _ z => by obtain ⟨rfl, rfl⟩ := z; exact K)
theorem r_V3v {x1 x2 x3 : Value} (hd : pm_kV E pc E' C 3 q) (hC : pm_C0 E' [.ref ad, x1, x2, x3] h h') (hh : h.2 ad = some (.inr (ci, fs))) (hci : vwCl[ci]? = some r) (hrc : r.1 = C) (h0 : (pm_rm E').cells = 0 ∧ (pm_rm E').slots = 0) (hcat : (st.map fun v => v.category).sum ≤ 8) (K : pm_V E q L st h' b F) : pm_V E pc L (x3 :: x2 :: x1 :: .ref ad :: st) h b F := r_callV (As := [x1, x2, x3]) hd hci hrc hh rfl rfl hcat h0 hC (fun _ _ z => by obtain ⟨rfl, rfl⟩ := z; exact K)
theorem r_V3p {x1 x2 x3 : Value} (hd : pm_kV E pc E' C 3 q) (hC : pm_Cl E' [.ref ad, x1, x2, x3] h P) (hh : h.2 ad = some (.inr (ci, fs))) (hci : vwCl[ci]? = some r) (hrc : r.1 = C) (h0 : (pm_rm E').cells = 0 ∧ (pm_rm E').slots = 0) (hcat : (st.map fun v => v.category).sum ≤ 8) (K : ∀ v h1, P v h1 → pm_V E q L (v.toList ++ st) h1 b F) : pm_V E pc L (x3 :: x2 :: x1 :: .ref ad :: st) h b F := r_callV (As := [x1, x2, x3]) hd hci hrc hh rfl rfl hcat h0 hC K
theorem r_S3 {x1 x2 x3 : Value} (hd : pm_kS E pc E' 3 q) (hC : pm_Cv E' [x1, x2, x3] h v h') (h0 : (pm_rm E').cells = 0 ∧ (pm_rm E').slots = 0) (hcat : (st.map fun v => v.category).sum ≤ 8) (K : pm_V E q L (v :: st) h' b F) : pm_V E pc L (x3 :: x2 :: x1 :: st) h b F := r_callS (As := [x1, x2, x3]) hd rfl rfl hcat h0 hC (fun _ _ z => by obtain ⟨rfl, rfl⟩ := z; exact K)
theorem r_S3v {x1 x2 x3 : Value} (hd : pm_kS E pc E' 3 q) (hC : pm_C0 E' [x1, x2, x3] h h') (h0 : (pm_rm E').cells = 0 ∧ (pm_rm E').slots = 0) (hcat : (st.map fun v => v.category).sum ≤ 8) (K : pm_V E q L st h' b F) : pm_V E pc L (x3 :: x2 :: x1 :: st) h b F := r_callS (As := [x1, x2, x3]) hd rfl rfl hcat h0 hC (fun _ _ z => by obtain ⟨rfl, rfl⟩ := z; exact K)
theorem r_I3v {x1 x2 x3 : Value} {b' : Nat × Nat} (hd : pm_kI E pc E' 3 q) (hC : pm_C0 E' [.ref ad, x1, x2, x3] h h') (hb1 : b'.1 + (pm_rm E').cells = b.1) (hb2 : b'.2 + (pm_rm E').slots = b.2) (hcat : (st.map fun v => v.category).sum ≤ 8) (K : pm_V E q L st h' b' F) : pm_V E pc L (x3 :: x2 :: x1 :: .ref ad :: st) h b F := r_callIa (As := [x1, x2, x3]) hd rfl rfl hcat (Nat.le_of_eq hb1) (Nat.le_of_eq hb2) hC (fun _ _ z => by obtain ⟨rfl, rfl⟩ := z; exact K)
theorem r_V4 {x1 x2 x3 x4 : Value} (hd : pm_kV E pc E' C 4 q) (hC : pm_Cv E' [.ref ad, x1, x2, x3, x4] h v h') (hh : h.2 ad = some (.inr (ci, fs))) (hci : vwCl[ci]? = some r) (hrc : r.1 = C) (h0 : (pm_rm E').cells = 0 ∧ (pm_rm E').slots = 0) (hcat : (st.map fun v => v.category).sum ≤ 8) (K : pm_V E q L (v :: st) h' b F) : pm_V E pc L (x4 :: x3 :: x2 :: x1 :: .ref ad :: st) h b F := r_callV (As := [x1, x2, x3, x4]) hd hci hrc hh rfl rfl hcat h0 hC (fun _ _ z => by obtain ⟨rfl, rfl⟩ := z; exact K)
theorem r_V4v {x1 x2 x3 x4 : Value} (hd : pm_kV E pc E' C 4 q) (hC : pm_C0 E' [.ref ad, x1, x2, x3, x4] h h') (hh : h.2 ad = some (.inr (ci, fs))) (hci : vwCl[ci]? = some r) (hrc : r.1 = C) (h0 : (pm_rm E').cells = 0 ∧ (pm_rm E').slots = 0) (hcat : (st.map fun v => v.category).sum ≤ 8) (K : pm_V E q L st h' b F) : pm_V E pc L (x4 :: x3 :: x2 :: x1 :: .ref ad :: st) h b F := r_callV (As := [x1, x2, x3, x4]) hd hci hrc hh rfl rfl hcat h0 hC (fun _ _ z => by obtain ⟨rfl, rfl⟩ := z; exact K)
theorem r_V4p {x1 x2 x3 x4 : Value} (hd : pm_kV E pc E' C 4 q) (hC : pm_Cl E' [.ref ad, x1, x2, x3, x4] h P) (hh : h.2 ad = some (.inr (ci, fs))) (hci : vwCl[ci]? = some r) (hrc : r.1 = C) (h0 : (pm_rm E').cells = 0 ∧ (pm_rm E').slots = 0) (hcat : (st.map fun v => v.category).sum ≤ 8) (K : ∀ v h1, P v h1 → pm_V E q L (v.toList ++ st) h1 b F) : pm_V E pc L (x4 :: x3 :: x2 :: x1 :: .ref ad :: st) h b F := r_callV (As := [x1, x2, x3, x4]) hd hci hrc hh rfl rfl hcat h0 hC K
theorem r_S4 {x1 x2 x3 x4 : Value} (hd : pm_kS E pc E' 4 q) (hC : pm_Cv E' [x1, x2, x3, x4] h v h') (h0 : (pm_rm E').cells = 0 ∧ (pm_rm E').slots = 0) (hcat : (st.map fun v => v.category).sum ≤ 8) (K : pm_V E q L (v :: st) h' b F) : pm_V E pc L (x4 :: x3 :: x2 :: x1 :: st) h b F := r_callS (As := [x1, x2, x3, x4]) hd rfl rfl hcat h0 hC (fun _ _ z => by obtain ⟨rfl, rfl⟩ := z; exact K)
theorem r_S4v {x1 x2 x3 x4 : Value} (hd : pm_kS E pc E' 4 q) (hC : pm_C0 E' [x1, x2, x3, x4] h h') (h0 : (pm_rm E').cells = 0 ∧ (pm_rm E').slots = 0) (hcat : (st.map fun v => v.category).sum ≤ 8) (K : pm_V E q L st h' b F) : pm_V E pc L (x4 :: x3 :: x2 :: x1 :: st) h b F := r_callS (As := [x1, x2, x3, x4]) hd rfl rfl hcat h0 hC (fun _ _ z => by obtain ⟨rfl, rfl⟩ := z; exact K)
theorem r_I4v {x1 x2 x3 x4 : Value} {b' : Nat × Nat} (hd : pm_kI E pc E' 4 q) (hC : pm_C0 E' [.ref ad, x1, x2, x3, x4] h h') (hb1 : b'.1 + (pm_rm E').cells = b.1) (hb2 : b'.2 + (pm_rm E').slots = b.2) (hcat : (st.map fun v => v.category).sum ≤ 8) (K : pm_V E q L st h' b' F) : pm_V E pc L (x4 :: x3 :: x2 :: x1 :: .ref ad :: st) h b F := r_callIa (As := [x1, x2, x3, x4]) hd rfl rfl hcat (Nat.le_of_eq hb1) (Nat.le_of_eq hb2) hC (fun _ _ z => by obtain ⟨rfl, rfl⟩ := z; exact K)
theorem r_V5 {x1 x2 x3 x4 x5 : Value} (hd : pm_kV E pc E' C 5 q) (hC : pm_Cv E' [.ref ad, x1, x2, x3, x4, x5] h v h') (hh : h.2 ad = some (.inr (ci, fs))) (hci : vwCl[ci]? = some r) (hrc : r.1 = C) (h0 : (pm_rm E').cells = 0 ∧ (pm_rm E').slots = 0) (hcat : (st.map fun v => v.category).sum ≤ 8) (K : pm_V E q L (v :: st) h' b F) : pm_V E pc L (x5 :: x4 :: x3 :: x2 :: x1 :: .ref ad :: st) h b F := r_callV (As := [x1, x2, x3, x4, x5]) hd hci hrc hh rfl rfl hcat h0 hC (fun _ _ z => by obtain ⟨rfl, rfl⟩ := z; exact K)
theorem r_V5v {x1 x2 x3 x4 x5 : Value} (hd : pm_kV E pc E' C 5 q) (hC : pm_C0 E' [.ref ad, x1, x2, x3, x4, x5] h h') (hh : h.2 ad = some (.inr (ci, fs))) (hci : vwCl[ci]? = some r) (hrc : r.1 = C) (h0 : (pm_rm E').cells = 0 ∧ (pm_rm E').slots = 0) (hcat : (st.map fun v => v.category).sum ≤ 8) (K : pm_V E q L st h' b F) : pm_V E pc L (x5 :: x4 :: x3 :: x2 :: x1 :: .ref ad :: st) h b F := r_callV (As := [x1, x2, x3, x4, x5]) hd hci hrc hh rfl rfl hcat h0 hC (fun _ _ z => by obtain ⟨rfl, rfl⟩ := z; exact K)
theorem r_V5p {x1 x2 x3 x4 x5 : Value} (hd : pm_kV E pc E' C 5 q) (hC : pm_Cl E' [.ref ad, x1, x2, x3, x4, x5] h P) (hh : h.2 ad = some (.inr (ci, fs))) (hci : vwCl[ci]? = some r) (hrc : r.1 = C) (h0 : (pm_rm E').cells = 0 ∧ (pm_rm E').slots = 0) (hcat : (st.map fun v => v.category).sum ≤ 8) (K : ∀ v h1, P v h1 → pm_V E q L (v.toList ++ st) h1 b F) : pm_V E pc L (x5 :: x4 :: x3 :: x2 :: x1 :: .ref ad :: st) h b F := r_callV (As := [x1, x2, x3, x4, x5]) hd hci hrc hh rfl rfl hcat h0 hC K
theorem r_S5 {x1 x2 x3 x4 x5 : Value} (hd : pm_kS E pc E' 5 q) (hC : pm_Cv E' [x1, x2, x3, x4, x5] h v h') (h0 : (pm_rm E').cells = 0 ∧ (pm_rm E').slots = 0) (hcat : (st.map fun v => v.category).sum ≤ 8) (K : pm_V E q L (v :: st) h' b F) : pm_V E pc L (x5 :: x4 :: x3 :: x2 :: x1 :: st) h b F := r_callS (As := [x1, x2, x3, x4, x5]) hd rfl rfl hcat h0 hC (fun _ _ z => by obtain ⟨rfl, rfl⟩ := z; exact K)
theorem r_S5v {x1 x2 x3 x4 x5 : Value} (hd : pm_kS E pc E' 5 q) (hC : pm_C0 E' [x1, x2, x3, x4, x5] h h') (h0 : (pm_rm E').cells = 0 ∧ (pm_rm E').slots = 0) (hcat : (st.map fun v => v.category).sum ≤ 8) (K : pm_V E q L st h' b F) : pm_V E pc L (x5 :: x4 :: x3 :: x2 :: x1 :: st) h b F := r_callS (As := [x1, x2, x3, x4, x5]) hd rfl rfl hcat h0 hC (fun _ _ z => by obtain ⟨rfl, rfl⟩ := z; exact K)
theorem r_I5v {x1 x2 x3 x4 x5 : Value} {b' : Nat × Nat} (hd : pm_kI E pc E' 5 q) (hC : pm_C0 E' [.ref ad, x1, x2, x3, x4, x5] h h') (hb1 : b'.1 + (pm_rm E').cells = b.1) (hb2 : b'.2 + (pm_rm E').slots = b.2) (hcat : (st.map fun v => v.category).sum ≤ 8) (K : pm_V E q L st h' b' F) : pm_V E pc L (x5 :: x4 :: x3 :: x2 :: x1 :: .ref ad :: st) h b F := r_callIa (As := [x1, x2, x3, x4, x5]) hd rfl rfl hcat (Nat.le_of_eq hb1) (Nat.le_of_eq hb2) hC (fun _ _ z => by obtain ⟨rfl, rfl⟩ := z; exact K)
theorem r_V6 {x1 x2 x3 x4 x5 x6 : Value} (hd : pm_kV E pc E' C 6 q) (hC : pm_Cv E' [.ref ad, x1, x2, x3, x4, x5, x6] h v h') (hh : h.2 ad = some (.inr (ci, fs))) (hci : vwCl[ci]? = some r) (hrc : r.1 = C) (h0 : (pm_rm E').cells = 0 ∧ (pm_rm E').slots = 0) (hcat : (st.map fun v => v.category).sum ≤ 8) (K : pm_V E q L (v :: st) h' b F) : pm_V E pc L (x6 :: x5 :: x4 :: x3 :: x2 :: x1 :: .ref ad :: st) h b F := r_callV (As := [x1, x2, x3, x4, x5, x6]) hd hci hrc hh rfl rfl hcat h0 hC (fun _ _ z => by obtain ⟨rfl, rfl⟩ := z; exact K)
theorem r_V6v {x1 x2 x3 x4 x5 x6 : Value} (hd : pm_kV E pc E' C 6 q) (hC : pm_C0 E' [.ref ad, x1, x2, x3, x4, x5, x6] h h') (hh : h.2 ad = some (.inr (ci, fs))) (hci : vwCl[ci]? = some r) (hrc : r.1 = C) (h0 : (pm_rm E').cells = 0 ∧ (pm_rm E').slots = 0) (hcat : (st.map fun v => v.category).sum ≤ 8) (K : pm_V E q L st h' b F) : pm_V E pc L (x6 :: x5 :: x4 :: x3 :: x2 :: x1 :: .ref ad :: st) h b F := r_callV (As := [x1, x2, x3, x4, x5, x6]) hd hci hrc hh rfl rfl hcat h0 hC (fun _ _ z => by obtain ⟨rfl, rfl⟩ := z; exact K)
theorem r_V6p {x1 x2 x3 x4 x5 x6 : Value} (hd : pm_kV E pc E' C 6 q) (hC : pm_Cl E' [.ref ad, x1, x2, x3, x4, x5, x6] h P) (hh : h.2 ad = some (.inr (ci, fs))) (hci : vwCl[ci]? = some r) (hrc : r.1 = C) (h0 : (pm_rm E').cells = 0 ∧ (pm_rm E').slots = 0) (hcat : (st.map fun v => v.category).sum ≤ 8) (K : ∀ v h1, P v h1 → pm_V E q L (v.toList ++ st) h1 b F) : pm_V E pc L (x6 :: x5 :: x4 :: x3 :: x2 :: x1 :: .ref ad :: st) h b F := r_callV (As := [x1, x2, x3, x4, x5, x6]) hd hci hrc hh rfl rfl hcat h0 hC K
theorem r_S6 {x1 x2 x3 x4 x5 x6 : Value} (hd : pm_kS E pc E' 6 q) (hC : pm_Cv E' [x1, x2, x3, x4, x5, x6] h v h') (h0 : (pm_rm E').cells = 0 ∧ (pm_rm E').slots = 0) (hcat : (st.map fun v => v.category).sum ≤ 8) (K : pm_V E q L (v :: st) h' b F) : pm_V E pc L (x6 :: x5 :: x4 :: x3 :: x2 :: x1 :: st) h b F := r_callS (As := [x1, x2, x3, x4, x5, x6]) hd rfl rfl hcat h0 hC (fun _ _ z => by obtain ⟨rfl, rfl⟩ := z; exact K)
theorem r_S6v {x1 x2 x3 x4 x5 x6 : Value} (hd : pm_kS E pc E' 6 q) (hC : pm_C0 E' [x1, x2, x3, x4, x5, x6] h h') (h0 : (pm_rm E').cells = 0 ∧ (pm_rm E').slots = 0) (hcat : (st.map fun v => v.category).sum ≤ 8) (K : pm_V E q L st h' b F) : pm_V E pc L (x6 :: x5 :: x4 :: x3 :: x2 :: x1 :: st) h b F := r_callS (As := [x1, x2, x3, x4, x5, x6]) hd rfl rfl hcat h0 hC (fun _ _ z => by obtain ⟨rfl, rfl⟩ := z; exact K)
theorem r_I6v {x1 x2 x3 x4 x5 x6 : Value} {b' : Nat × Nat} (hd : pm_kI E pc E' 6 q) (hC : pm_C0 E' [.ref ad, x1, x2, x3, x4, x5, x6] h h') (hb1 : b'.1 + (pm_rm E').cells = b.1) (hb2 : b'.2 + (pm_rm E').slots = b.2) (hcat : (st.map fun v => v.category).sum ≤ 8) (K : pm_V E q L st h' b' F) : pm_V E pc L (x6 :: x5 :: x4 :: x3 :: x2 :: x1 :: .ref ad :: st) h b F := r_callIa (As := [x1, x2, x3, x4, x5, x6]) hd rfl rfl hcat (Nat.le_of_eq hb1) (Nat.le_of_eq hb2) hC (fun _ _ z => by obtain ⟨rfl, rfl⟩ := z; exact K)
end PC
theorem pm_Cl.mono {E : pm_E} {av : List Value} {h : pm_H} {P P' : Option Value → pm_H → Prop} (k : pm_Cl E av h P) (hs : ∀ v h1, P v h1 → P' v h1) : pm_Cl E av h P' := by
  intro l G
  have := k l G
  intro p e ha hc hk s m args below hf happ hP hK
  obtain ⟨n, o, h1, h2, h3, ⟨v, hh, e1, e2, e3⟩, hQ⟩ := this p e ha hc hk s m args below hf happ hP hK
  exact ⟨n, o, h1, h2, h3, ⟨v, hh, e1, hs _ _ e2, e3⟩, hQ⟩
theorem pm_L.st2z {G : pm_G} {L : List (Option Value)} {ls' : Array Slot} {n : Nat} {v : Value} (h : lv_has ls' n ((0, pm_rv G v) :: ((pm_al L).map (fun q => (q.1, pm_rv G q.2))).filter (fun q => !(q.1 == 0) && (!(q.1 == 0 + 1) && !(q.1 + 1 == 0 && q.2.category == 2))))) : pm_L G ((L.set 0 (some v)).set 1 none) ls' n := by
  refine ⟨h.1, h.2.1, fun q hq => ?_⟩
  obtain ⟨x, hx, rfl⟩ := List.mem_map.mp hq
  have hx' := pm_al_mem.mp hx
  rw [List.getElem?_set] at hx'
  split at hx'
  · split at hx'
    · cases hx'
    · cases hx'
  next e0 =>
  rw [List.getElem?_set] at hx'
  split at hx'
  · next e =>
    split at hx'
    · next hlt =>
      cases hx'
      rw [← e]
      exact h.2.2 _ List.mem_cons_self
    · cases hx'
  · next e =>
    refine h.2.2 _ (List.mem_cons_of_mem _ (List.mem_filter.mpr ⟨List.mem_map.mpr ⟨x, pm_al_mem.mpr hx', rfl⟩, ?_⟩))
    have e1 : (x.1 == 0) = false := by simpa using fun q => e q.symm
    have e4 : (x.1 == 0 + 1) = false := by simpa using fun q => e0 q.symm
    simp [e1, e4]
section PC2
variable {E : pm_E} {pc q : Nat} {L : List (Option Value)} {st : List Value} {h : pm_H} {b : Nat × Nat} {F : Option Value → pm_H → Prop}
/-- a long over a long in the first two places -/
theorem r_lstore_0z {o o2 : Option Value} {R : List (Option Value)} {x : Int64} (hd : pm_i E pc .lstore_n .lstore 0 q) (hi : 1 < pm_nL E) (k : pm_V E q (some (.long x) :: none :: R) st h b F) : pm_V E pc (o :: o2 :: R) (.long x :: st) h b F := by
  intro G p l e s m args below meth c H locs ls cells slots Q X hR hl hL hc hs hE
  rcases hd with ⟨n, d, hv, rfl⟩ | ⟨d, rfl⟩
  · exact lv_lstore_n X.1 X.2.1 d hv hL hi rfl (fun ls' h' => k G p l e s m args below meth c H locs ls' cells slots Q X hR hl (pm_L.st2z (v := .long x) h') hc hs hE)
  · exact lv_lstore X.1 X.2.1 d hL hi rfl (fun ls' h' => k G p l e s m args below meth c H locs ls' cells slots Q X hR hl (pm_L.st2z (v := .long x) h') hc hs hE)
theorem pm_abs_code : cJ9_abs_0f7a4 = Lib.Math.abs.code := by decide +kernel
theorem r_mabs {x : Int32} (hd : pm_kS E pc e_J9_abs_0f7a4 1 q) (hlk : ∀ idx host, Cond.methodLinkNest E.1.cls idx yJ9_abs_0f7a4 host ∉ pm_tbl) (hfr : 1 ≤ (pm_rm E).frames) (hlo : (st.map fun v => v.category).sum + 13 ≤ (pm_rm E).locals) (k : pm_V E q L (.int (if 0 ≤ x then x else 0 - x) :: st) h b F) : pm_V E pc L (.int x :: st) h b F := by
  intro G p l e s m args below meth c H locs ls cells slots Q X hR hl hL hc hs hE
  obtain ⟨idx, d, rfl, ⟨g1, g2, g3, g4, g5, g6⟩, w2, hk⟩ := hd
  have w1 : Cond.methodLink E.1.cls idx yJ9_abs_0f7a4 ∈ pm_tbl := by
    rcases hk with z | ⟨host, z⟩
    · exact z
    · exact absurd z (hlk _ _)
  have hts : ∀ w ∈ pm_tbl, ∀ a9, w.before a9 s = true := X.2.2.2.2.2.2.1
  have g3' : Cond.code Lib.Math.abs.name Lib.Math.abs.code 1 (some .int) ∈ pm_tbl := by
    have z : Cond.code yJ9_abs_0f7a4 cJ9_abs_0f7a4 1 (some .int) ∈ pm_tbl := g3
    rw [pm_abs_code] at z
    exact z
  exact va_mabs X.1 X.2.1 (X.2.2.1.trans hL.1.symm) X.2.2.2.1 (hts _ w1 args) (hts _ w2 args) (hts _ g4 args) (hts _ g3' args) hfr (by rw [pm_rv_cats]; exact hlo) (by omega) (by omega) d (k G p l e s m args below meth c H locs ls cells slots Q X hR hl hL hc hs hE)
/-- a switch of three places -/
theorem r_sw3 {x a0 a1 a2 : Int32} {lo : Int} {d t0 t1 t2 : Nat} (hd : pm_T E pc lo (lo + 2) d [t0, t1, t2]) (e0 : a0.toInt = lo) (e1 : a1.toInt = lo + 1) (e2 : a2.toInt = lo + 2) (k0 : x = a0 → pm_V E t0 L st h b F) (k1 : x = a1 → pm_V E t1 L st h b F) (k2 : x = a2 → pm_V E t2 L st h b F) (kd : x ≠ a0 → x ≠ a1 → x ≠ a2 → pm_V E d L st h b F) : pm_V E pc L (.int x :: st) h b F := by
  refine r_switch hd (fun z => kd (fun q => ?_) (fun q => ?_) (fun q => ?_)) (fun t z1 z2 z3 => ?_) (by show (lo + 2 - lo).toNat < 3; omega)
  · rw [q, e0] at z; omega
  · rw [q, e1] at z; omega
  · rw [q, e2] at z; omega
  · rcases (show x.toInt = lo ∨ x.toInt = lo + 1 ∨ x.toInt = lo + 2 by omega) with w | w | w
    · rw [show (x.toInt - lo).toNat = 0 by omega] at z3
      cases z3
      exact k0 (Int32.toInt_inj.mp (by rw [w, e0]))
    · rw [show (x.toInt - lo).toNat = 1 by omega] at z3
      cases z3
      exact k1 (Int32.toInt_inj.mp (by rw [w, e1]))
    · rw [show (x.toInt - lo).toNat = 2 by omega] at z3
      cases z3
      exact k2 (Int32.toInt_inj.mp (by rw [w, e2]))
end PC2
theorem pm_t0 : (0 : Int32).toInt = 0 := rfl
theorem pm_t1 : (1 : Int32).toInt = 1 := rfl
theorem pm_t2 : (2 : Int32).toInt = 2 := rfl
theorem pm_t3 : (3 : Int32).toInt = 3 := rfl
theorem pm_t4 : (4 : Int32).toInt = 4 := rfl
theorem pm_t5 : (5 : Int32).toInt = 5 := rfl
theorem pm_t6 : (6 : Int32).toInt = 6 := rfl
theorem pm_t7 : (7 : Int32).toInt = 7 := rfl
theorem pm_t8 : (8 : Int32).toInt = 8 := rfl
theorem pm_t9 : (9 : Int32).toInt = 9 := rfl
theorem pm_t10 : (10 : Int32).toInt = 10 := rfl
theorem pm_t11 : (11 : Int32).toInt = 11 := rfl
theorem pm_t12 : (12 : Int32).toInt = 12 := rfl
theorem pm_t13 : (13 : Int32).toInt = 13 := rfl
theorem pm_t14 : (14 : Int32).toInt = 14 := rfl
theorem pm_t15 : (15 : Int32).toInt = 15 := rfl
theorem pm_t30 : (30 : Int32).toInt = 30 := rfl
theorem pm_t31 : (31 : Int32).toInt = 31 := rfl
theorem pm_t32 : (32 : Int32).toInt = 32 := rfl
theorem pm_t48 : (48 : Int32).toInt = 48 := rfl
theorem pm_t59 : (59 : Int32).toInt = 59 := rfl
theorem pm_t60 : (60 : Int32).toInt = 60 := rfl
theorem pm_t61 : (61 : Int32).toInt = 61 := rfl
theorem pm_t63 : (63 : Int32).toInt = 63 := rfl
theorem pm_t64 : (64 : Int32).toInt = 64 := rfl
theorem pm_t100 : (100 : Int32).toInt = 100 := rfl
theorem pm_t255 : (255 : Int32).toInt = 255 := rfl
theorem pm_t256 : (256 : Int32).toInt = 256 := rfl
theorem pm_t511 : (511 : Int32).toInt = 511 := rfl
theorem pm_t512 : (512 : Int32).toInt = 512 := rfl
theorem pm_t1000 : (1000 : Int32).toInt = 1000 := rfl
theorem pm_t9999999 : (9999999 : Int32).toInt = 9999999 := rfl
theorem pm_t10000000 : (10000000 : Int32).toInt = 10000000 := rfl
theorem pm_t1000000 : (1000000 : Int32).toInt = 1000000 := rfl
theorem pm_t2000001 : (2000001 : Int32).toInt = 2000001 := rfl
theorem pm_tm1 : (-1 : Int32).toInt = -1 := rfl
theorem pm_tm2 : (-2 : Int32).toInt = -2 := rfl
theorem pm_tm3 : (-3 : Int32).toInt = -3 := rfl
theorem pm_tm4 : (-4 : Int32).toInt = -4 := rfl
theorem pm_tm9 : (-9 : Int32).toInt = -9 := rfl
