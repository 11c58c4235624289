abbrev pm_Y : Type := String × String × String
def pm_F (E : pm_E) (pc : Nat) (g : Nat → Instr) (y : pm_Y) (q : Nat) : Prop := ∃ idx : Nat, decode (pm_cc E) pc = .ok (g idx, 3) ∧ pc + 3 = q ∧ (Cond.fieldLink E.1.cls idx y.1 y.2.1 y.2.2 ∈ pm_tbl ∨ ∃ host : String, Cond.fieldLinkNest E.1.cls idx y.1 y.2.1 y.2.2 host ∈ pm_tbl)
/-- class ci's k-th field is y -/
def pm_S (ci k : Nat) (y : pm_Y) (fin : Bool) (ty : FieldType) : Prop := ∃ (C : String) (T : u_T) (N : Nat) (ty0 : Nat → FieldType), vwCl[ci]? = some (C, T, N) ∧ k < N ∧ T k = (y.1, y.2.1, y.2.2, fin) ∧ (∀ w ∈ u_ws C T N, w ∈ pm_tbl) ∧ parseFieldDescriptor y.2.2 = some ty ∧ (∀ j, j < N → parseFieldDescriptor (T j).2.2.1 = some (ty0 j)) ∧ ∀ i, i < N → ∀ j, j < N → i ≠ j → (T i).2.1 ≠ (T j).2.1
theorem pm_one {D : va_G} {cl : List vw_C} {x : Nat × va_E} {H : Heap} (h : va_at D cl x H) : va_P D cl [x] H := by
  intro k q hq
  have hz : k < 1 := (List.getElem?_eq_some_iff.mp hq).1
  rw [show k = 0 by omega] at hq
  cases hq
  exact h
theorem pm_nf {G : pm_G} {ty : FieldType} {v : Value} (hn : narrow ty v = v) (hf : fits ty v = true) : narrow ty (pm_rv G v) = pm_rv G v ∧ fits ty (pm_rv G v) = true := by
  cases v <;> first | exact ⟨hn, hf⟩ | (cases ty <;> first | exact ⟨rfl, rfl⟩ | (simp [fits] at hf))
theorem pm_ix_in {i : Int32} {j n : Nat} (h : ¬ i < 0 ∧ i.toNatClampNeg = j ∧ j < n) : vp_in i n := fun q => q.elim h.1 (fun z => by rw [h.2.1] at z; omega)
def pm_ix (i : Int32) (j n : Nat) : Prop := ¬ i < 0 ∧ i.toNatClampNeg = j ∧ j < n
theorem pm_ixN {j n : Nat} (h : j < n) (hn : n < 2 ^ 31) : pm_ix (nI j) j n := ⟨nI_pos (by omega), nI_clamp (by omega), h⟩
theorem pm_arr {G : pm_G} {a : Nat} {ty : FieldType} {x : vp_A} {H : Heap} (h : pm_at G a (.inl (ty, x)) H) (ht : ty ≠ .array .int) : 0 < a ∧ H[pm_ro G a]? = some (vp_cell (G.2.1 ty) (pm_ra G x)) := by
  rcases h with ⟨h1, -⟩ | ⟨h1, h2, -⟩
  · exact absurd h1 ht
  · exact ⟨h1, h2⟩
section PH
variable {E : pm_E} {pc q : Nat} {L : List (Option Value)} {st : List Value} {h : pm_H} {b : Nat × Nat} {F : Option Value → pm_H → Prop} {ad : Nat}
theorem r_get {y : pm_Y} {ci k : Nat} {fin : Bool} {ty : FieldType} {fs : List Value} {v : Value} (hd : pm_F E pc .getfield y q) (hS : pm_S ci k y fin ty) (hh : h.2 ad = some (.inr (ci, fs))) (hv : fs[k]? = some v) (K : pm_V E q L (v :: st) h b F) : pm_V E pc L (.ref ad :: st) h b F := by
  intro G p l e s m args below meth c H locs ls cells slots Q X hR hl hL hc hs hE
  obtain ⟨idx, d, rfl, hlk⟩ := hd
  obtain ⟨C, T, N, ty0, hci, hk, hT, hin, -⟩ := hS
  have hP := pm_one (hR.2.2.2 ad _ hh).2
  have hts : ∀ w ∈ pm_tbl, w.before args s = true := fun w hw => X.2.2.2.2.2.2.1 w hw args
  have hv' : (fs.map (pm_rv G))[k]? = some (pm_rv G v) := by rw [List.getElem?_map, hv]; rfl
  rcases hlk with hlk | ⟨host, hlk⟩
  · exact va_get (D := G.1) (ci := ci) (C := C) (T := T) (N := N) (ref := y.1) X.1 X.2.1 hts hin X.2.2.2.1 X.2.2.2.2.2.1 hP 0 rfl hci k hk (by rw [hT]; exact hts _ hlk) (by rw [hT]; exact fun _ z => z) hv' d (K G p l e s m args below meth c H locs ls cells slots Q X hR hl hL hc hs hE)
  · exact va_getN (D := G.1) (ci := ci) (C := C) (T := T) (N := N) (ref := y.1) X.1 X.2.1 hts hin X.2.2.2.1 X.2.2.2.2.2.1 hP 0 rfl hci k hk (by rw [hT]; exact hts _ hlk) (by rw [hT]; exact fun _ z => z) hv' d (K G p l e s m args below meth c H locs ls cells slots Q X hR hl hL hc hs hE)
theorem r_put {y : pm_Y} {ci k : Nat} {ty : FieldType} {fs : List Value} {v : Value} (hd : pm_F E pc .putfield y q) (hS : pm_S ci k y false ty) (hh : h.2 ad = some (.inr (ci, fs))) (hkl : k < fs.length) (hv : narrow ty v = v ∧ fits ty v = true) (K : pm_V E q L st (pm_up h ad (.inr (ci, fs.set k v))) b F) : pm_V E pc L (v :: .ref ad :: st) h b F := by
  intro G p l e s m args below meth c H locs ls cells slots Q X hR hl hL hc hs hE
  obtain ⟨idx, d, rfl, hlk⟩ := hd
  obtain ⟨C, T, N, ty0, hci, hk, hT, hin, hd5, hty, hnm⟩ := hS
  have hts : ∀ w ∈ pm_tbl, w.before args s = true := fun w hw => X.2.2.2.2.2.2.1 w hw args
  have hap := va_apart (own := E.1.cls) hts hin ty0 hty hnm X.2.2.2.2.2.1 hci
  obtain ⟨hpos, r, h1, cell, q1, q2, q3, q4⟩ := hR.2.2.2 ad _ hh
  have hr : r = (C, T, N) := Option.some.inj (h1.symm.trans hci)
  subst hr
  obtain ⟨hSl, hfc, kC, hkC, hkind⟩ := X.2.2.2.2.2.1.1 ci _ hci
  obtain ⟨cf, kf, fi, f, hi, hsl⟩ := hSl k hk
  have hlay := hts _ (hin _ (u_in_lay hk))
  unfold u_lay at hlay
  simp only [hT] at hlay hi
  rw [if_neg (by decide)] at hlay
  have hst := (u_facts hfc hkC (Or.inl hlay) hi).1
  have hnf := pm_nf (G := G) hv.1 hv.2
  have h6 := u_store hfc hkC hkind hlay hi hd5 hnf.1 hnf.2
  have fin : ∀ H' : Heap, H'[pm_ro G ad]? = some (cell.setSlot f.slot (pm_rv G v)) → H'.size = H.size → (∀ q, q ≠ pm_ro G ad → H'[q]? = H[q]?) → W p l e (pm_rm E) s m args below meth c H' (locs ++ [⟨pm_ro G ad, f.slot⟩]) cells slots Q (F0 m (pc + 3) ls (st.map (pm_rv G))) := by
    intro H' e1 e2 e3
    rw [hsl] at e1 ⊢
    refine K G p l e s m args below meth c H' (locs ++ [⟨pm_ro G ad, _⟩]) ls cells slots Q X (hR.up ⟨hpos, _, hci, t_OB.to (V := updV (vp_V (fs.map (pm_rv G))) k (pm_rv G v)) ⟨_, e1, q2, q3, t_set q4 hap hk (pm_rv G v)⟩ (fun j _ => ?_)⟩ e2 e3) ?_ hL hc hs hE
    · rw [vp_updV_set (by rw [List.length_map]; exact hkl), List.map_set]
    · intro q hq
      rcases List.mem_append.mp hq with z | z
      · exact hl q z
      · rw [List.mem_singleton.mp z]; exact pm_ro_pos hpos
  rcases hlk with hlk | ⟨host, hlk⟩
  · exact W.putK X.1 X.2.1 (f := f) ⟨X.2.2.2.1, hts _ hlk, ⟨_, _, _, hi⟩, hst⟩ (by rw [q2]; exact h6) q1 q3 (by rw [hsl]; exact k2_hasslot (q4 k hk)) rfl rfl d fin
  · exact va_WputK X.1 X.2.1 (f := f) X.2.2.2.1 (hts _ hlk) hi hst (by rw [q2]; exact h6) q1 q3 (by rw [hsl]; exact k2_hasslot (q4 k hk)) rfl rfl d fin
/-- a final field, in the class's own constructor -/
theorem r_putF {y : pm_Y} {ci k : Nat} {ty : FieldType} {fs : List Value} {v : Value} (hd : pm_F E pc .putfield y q) (hS : pm_S ci k y true ty) (hinit : E.1.name = "<init>") (hdecl : y.1 = E.1.cls) (hh : h.2 ad = some (.inr (ci, fs))) (hkl : k < fs.length) (hv : narrow ty v = v ∧ fits ty v = true) (K : pm_V E q L st (pm_up h ad (.inr (ci, fs.set k v))) b F) (hnest : ∀ idx host, Cond.fieldLinkNest E.1.cls idx y.1 y.2.1 y.2.2 host ∉ pm_tbl) : pm_V E pc L (v :: .ref ad :: st) h b F := by
  intro G p l e s m args below meth c H locs ls cells slots Q X hR hl hL hc hs hE
  obtain ⟨idx, d, rfl, hlk⟩ := hd
  obtain ⟨C, T, N, ty0, hci, hk, hT, hin, hd5, hty, hnm⟩ := hS
  have hts : ∀ w ∈ pm_tbl, w.before args s = true := fun w hw => X.2.2.2.2.2.2.1 w hw args
  have hap := va_apart (own := E.1.cls) hts hin ty0 hty hnm X.2.2.2.2.2.1 hci
  obtain ⟨hpos, r, h1, cell, q1, q2, q3, q4⟩ := hR.2.2.2 ad _ hh
  have hr : r = (C, T, N) := Option.some.inj (h1.symm.trans hci)
  subst hr
  obtain ⟨hSl, hfc, kC, hkC, hkind⟩ := X.2.2.2.2.2.1.1 ci _ hci
  obtain ⟨cf, kf, fi, f, hi, hsl⟩ := hSl k hk
  have hlay := hts _ (hin _ (u_in_lay hk))
  unfold u_lay at hlay
  simp only [hT] at hlay hi
  rw [if_pos trivial] at hlay
  have hst := (u_facts hfc hkC (Or.inr hlay) hi).1
  have hcf : m.cls = cf := by
    obtain ⟨_, _, c', _, _, _, -, -, hf', -, -, -, hown2, -⟩ := Cond.laysFinal_spec hlay
    have e1 : c' = cf := by have := hi.symm.trans hf'; simp at this; exact this.1.symm
    rw [hdecl] at hown2
    rw [← e1]; exact Option.some.inj (X.2.2.2.1.symm.trans hown2)
  have hnf := pm_nf (G := G) hv.1 hv.2
  have h6 := u_fits hfc hkC hkind (Or.inr hlay) hi hd5 hnf.1 hnf.2
  have hlk : Cond.fieldLink E.1.cls idx y.1 y.2.1 y.2.2 ∈ pm_tbl := by
    rcases hlk with z | ⟨host, z⟩
    · exact z
    · exact absurd z (hnest _ _)
  refine W.putFinK X.1 X.2.1 X.2.2.2.1 (hts _ hlk) hi hst hcf (by rw [X.2.2.2.2.1]; exact hinit) (by rw [q2]; exact h6) q1 q3 (by rw [hsl]; exact k2_hasslot (q4 k hk)) rfl rfl d fun H' e1 e2 e3 => ?_
  rw [hsl] at e1 ⊢
  refine K G p l e s m args below meth c H' (locs ++ [⟨pm_ro G ad, _⟩]) ls cells slots Q X (hR.up ⟨hpos, _, hci, t_OB.to (V := updV (vp_V (fs.map (pm_rv G))) k (pm_rv G v)) ⟨_, e1, q2, q3, t_set q4 hap hk (pm_rv G v)⟩ (fun j _ => ?_)⟩ e2 e3) ?_ hL hc hs hE
  · rw [vp_updV_set (by rw [List.length_map]; exact hkl), List.map_set]
  · intro q hq
    rcases List.mem_append.mp hq with z | z
    · exact hl q z
    · rw [List.mem_singleton.mp z]; exact pm_ro_pos hpos
theorem r_iald {n j : Nat} {f : Nat → Int32} {i : Int32} (hd : pm_D E pc 1 .iaload q) (hh : h.2 ad = some (.inl (.int, n, .inl f))) (hx : pm_ix i j n) (K : pm_V E q L (.int (f j) :: st) h b F) : pm_V E pc L (.int i :: .ref ad :: st) h b F := by
  intro G p l e s m args below meth c H locs ls cells slots Q X hR hl hL hc hs hE
  obtain ⟨d, rfl⟩ := hd
  have hA := pm_arr (hR.2.2.2 ad _ hh) (by decide)
  have hP : va_P G.1 vwCl [(pm_ro G ad, .inl (G.2.1 .int, n, .inl f))] H := pm_one hA.2
  refine va_iald (D := G.1) (cl := vwCl) X.1 X.2.1 X.2.2.2.2.2.1 hP 0 0 rfl rfl (pm_ix_in hx) d ?_
  rw [hx.2.1]
  exact K G p l e s m args below meth c H locs ls cells slots Q X hR hl hL hc hs hE
theorem r_bald {n j : Nat} {f : Nat → Int32} {i : Int32} (hd : pm_D E pc 1 .baload q) (hh : h.2 ad = some (.inl (.byte, n, .inl f))) (hx : pm_ix i j n) (K : pm_V E q L (.int (f j) :: st) h b F) : pm_V E pc L (.int i :: .ref ad :: st) h b F := by
  intro G p l e s m args below meth c H locs ls cells slots Q X hR hl hL hc hs hE
  obtain ⟨d, rfl⟩ := hd
  have hA := pm_arr (hR.2.2.2 ad _ hh) (by decide)
  have hP : va_P G.1 vwCl [(pm_ro G ad, .inl (G.2.1 .byte, n, .inl f))] H := pm_one hA.2
  refine va_bald (D := G.1) (cl := vwCl) X.1 X.2.1 X.2.2.2.2.2.1 hP 0 2 rfl rfl (pm_ix_in hx) d ?_
  rw [hx.2.1]
  exact K G p l e s m args below meth c H locs ls cells slots Q X hR hl hL hc hs hE
theorem r_zald {n j : Nat} {f : Nat → Int32} {i : Int32} (hd : pm_D E pc 1 .baload q) (hh : h.2 ad = some (.inl (.boolean, n, .inl f))) (hx : pm_ix i j n) (K : pm_V E q L (.int (f j) :: st) h b F) : pm_V E pc L (.int i :: .ref ad :: st) h b F := by
  intro G p l e s m args below meth c H locs ls cells slots Q X hR hl hL hc hs hE
  obtain ⟨d, rfl⟩ := hd
  have hA := pm_arr (hR.2.2.2 ad _ hh) (by decide)
  have hP : va_P G.1 vwCl [(pm_ro G ad, .inl (G.2.1 .boolean, n, .inl f))] H := pm_one hA.2
  refine va_zald (D := G.1) (cl := vwCl) X.1 X.2.1 X.2.2.2.2.2.1 hP 0 3 rfl rfl (pm_ix_in hx) d ?_
  rw [hx.2.1]
  exact K G p l e s m args below meth c H locs ls cells slots Q X hR hl hL hc hs hE
theorem r_lald {n j : Nat} {f : Nat → Int64} {i : Int32} (hd : pm_D E pc 1 .laload q) (hh : h.2 ad = some (.inl (.long, n, .inr (.inl f)))) (hx : pm_ix i j n) (K : pm_V E q L (.long (f j) :: st) h b F) : pm_V E pc L (.int i :: .ref ad :: st) h b F := by
  intro G p l e s m args below meth c H locs ls cells slots Q X hR hl hL hc hs hE
  obtain ⟨d, rfl⟩ := hd
  have hA := pm_arr (hR.2.2.2 ad _ hh) (by decide)
  have hP : va_P G.1 vwCl [(pm_ro G ad, .inl (G.2.1 .long, n, .inr (.inl f)))] H := pm_one hA.2
  refine va_lald (D := G.1) (cl := vwCl) X.1 X.2.1 X.2.2.2.2.2.1 hP 0 1 rfl rfl (pm_ix_in hx) d ?_
  rw [hx.2.1]
  exact K G p l e s m args below meth c H locs ls cells slots Q X hR hl hL hc hs hE
theorem r_aaldRX1 {n j : Nat} {f : Nat → Option Nat} {i : Int32} (hd : pm_D E pc 1 .aaload q) (hh : h.2 ad = some (.inl (.object RX1, n, .inr (.inr (.inr (.inr f)))))) (hx : pm_ix i j n) (K : pm_V E q L (va_rf (f j) :: st) h b F) : pm_V E pc L (.int i :: .ref ad :: st) h b F := by
  intro G p l e s m args below meth c H locs ls cells slots Q X hR hl hL hc hs hE
  obtain ⟨d, rfl⟩ := hd
  have hA := pm_arr (hR.2.2.2 ad _ hh) (fun z => by cases z)
  have hP : va_P G.1 vwCl [(pm_ro G ad, .inl (G.2.1 (.object RX1), n, .inr (.inr (.inr (.inr (fun j => (f j).map (pm_ro G)))))))] H := pm_one hA.2
  refine va_aldq (D := G.1) (cl := vwCl) X.1 X.2.1 X.2.2.2.2.2.1 hP 0 4 rfl rfl (pm_ix_in hx) d ?_
  have K := K G p l e s m args below meth c H locs ls cells slots Q X hR hl hL hc hs hE
  rw [hx.2.1]
  rw [List.map_cons, pm_rv_rf] at K
  exact K
theorem r_aastRX1 {n j vad ci : Nat} {fs : List Value} {f : Nat → Option Nat} {i : Int32} {r : vw_C} (hd : pm_D E pc 1 .aastore q) (hh : h.2 ad = some (.inl (.object RX1, n, .inr (.inr (.inr (.inr f)))))) (hv : h.2 vad = some (.inr (ci, fs))) (hci : vwCl[ci]? = some r) (hrc : r.1 = RX1 ∨ Cond.castable r.1 RX1 ∈ pm_tbl) (hx : pm_ix i j n) (K : pm_V E q L st (pm_up h ad (.inl (.object RX1, n, .inr (.inr (.inr (.inr (va_up f j (some vad)))))))) b F) : pm_V E pc L (.ref vad :: .int i :: .ref ad :: st) h b F := by
  intro G p l e s m args below meth c H locs ls cells slots Q X hR hl hL hc hs hE
  obtain ⟨d, rfl⟩ := hd
  have hA := pm_arr (hR.2.2.2 ad _ hh) (fun z => by cases z)
  obtain ⟨-, r', hr', cellV, g1, g2, g3, -⟩ := hR.2.2.2 vad _ hv
  have hcls := (X.2.2.2.2.2.1.1 ci r hci).2
  obtain ⟨kA, comp, k1, k2, k3, -⟩ := (X.2.2.2.2.2.1.2 4 (G.2.1 (.object RX1), .object RX1) rfl).2
  obtain ⟨kC, hkC, -⟩ := hcls.2
  have h0 := hx.1
  have hlt : i.toNatClampNeg < n := by rw [hx.2.1]; exact hx.2.2
  have hasg : s.vm.assignable cellV.cls comp = true := by
    rw [g2]
    rcases hrc with z | z
    · have hcomp : comp = G.1.1 ci := Option.some.inj (k3.symm.trans (by rw [← z]; exact hcls.1))
      rw [hcomp]
      exact va_assign hcls
    · obtain ⟨c0, t9, f1, f2, f3⟩ := Cond.castable_spec (X.2.2.2.2.2.2.1 _ z args)
      cases hcls.1.symm.trans f1
      cases k3.symm.trans f2
      exact f3
  obtain ⟨kcomp, hkcomp, -⟩ := Vm.findClass_spec k3
  refine W.aast X.1 X.2.1 hA.2 (fun q h => by cases h) (fun h => by cases h) k1 k2 rfl hkcomp ⟨h0, by show _ < (arrV _ _ _).slots.size; rw [arrV_size]; exact hlt⟩ g1 (fun q h => by rw [g3] at h; cases h) (by rw [g2]; exact hkC) hasg rfl rfl d fun H1 e1 z1 oq => ?_
  refine K G p l e s m args below meth c H1 _ ls cells slots Q X (hR.up (Or.inr ⟨hA.1, ?_, (fun z => by cases z)⟩) z1 oq) ?_ hL hc hs hE
  · rw [e1]
    show some ((vp_cell (G.2.1 (.object RX1)) (n, .inr (.inr (.inr (.inr (fun j => (f j).map (pm_ro G))))))).setSlot i.toNatClampNeg (.ref (pm_ro G vad))) = some (vp_cell (G.2.1 (.object RX1)) (n, .inr (.inr (.inr (.inr (fun q => (va_up f j (some vad) q).map (pm_ro G)))))))
    rw [vp_cell_q, vp_cell_q, arrV_store, hx.2.1]
    congr 2
    funext q
    by_cases hq : q = j
    · subst hq
      simp [updV, va_up, va_rf]
    · simp [updV, va_up, hq]
  · intro q hq
    rcases List.mem_append.mp hq with z | z
    · exact hl q z
    · rw [List.mem_singleton.mp z]; exact pm_ro_pos hA.1
theorem r_aaldRX3 {n j : Nat} {f : Nat → Option Nat} {i : Int32} (hd : pm_D E pc 1 .aaload q) (hh : h.2 ad = some (.inl (.object RX3, n, .inr (.inr (.inr (.inr f)))))) (hx : pm_ix i j n) (K : pm_V E q L (va_rf (f j) :: st) h b F) : pm_V E pc L (.int i :: .ref ad :: st) h b F := by
  intro G p l e s m args below meth c H locs ls cells slots Q X hR hl hL hc hs hE
  obtain ⟨d, rfl⟩ := hd
  have hA := pm_arr (hR.2.2.2 ad _ hh) (fun z => by cases z)
  have hP : va_P G.1 vwCl [(pm_ro G ad, .inl (G.2.1 (.object RX3), n, .inr (.inr (.inr (.inr (fun j => (f j).map (pm_ro G)))))))] H := pm_one hA.2
  refine va_aldq (D := G.1) (cl := vwCl) X.1 X.2.1 X.2.2.2.2.2.1 hP 0 5 rfl rfl (pm_ix_in hx) d ?_
  have K := K G p l e s m args below meth c H locs ls cells slots Q X hR hl hL hc hs hE
  rw [hx.2.1]
  rw [List.map_cons, pm_rv_rf] at K
  exact K
theorem r_aastRX3 {n j vad ci : Nat} {fs : List Value} {f : Nat → Option Nat} {i : Int32} {r : vw_C} (hd : pm_D E pc 1 .aastore q) (hh : h.2 ad = some (.inl (.object RX3, n, .inr (.inr (.inr (.inr f)))))) (hv : h.2 vad = some (.inr (ci, fs))) (hci : vwCl[ci]? = some r) (hrc : r.1 = RX3 ∨ Cond.castable r.1 RX3 ∈ pm_tbl) (hx : pm_ix i j n) (K : pm_V E q L st (pm_up h ad (.inl (.object RX3, n, .inr (.inr (.inr (.inr (va_up f j (some vad)))))))) b F) : pm_V E pc L (.ref vad :: .int i :: .ref ad :: st) h b F := by
  intro G p l e s m args below meth c H locs ls cells slots Q X hR hl hL hc hs hE
  obtain ⟨d, rfl⟩ := hd
  have hA := pm_arr (hR.2.2.2 ad _ hh) (fun z => by cases z)
  obtain ⟨-, r', hr', cellV, g1, g2, g3, -⟩ := hR.2.2.2 vad _ hv
  have hcls := (X.2.2.2.2.2.1.1 ci r hci).2
  obtain ⟨kA, comp, k1, k2, k3, -⟩ := (X.2.2.2.2.2.1.2 5 (G.2.1 (.object RX3), .object RX3) rfl).2
  obtain ⟨kC, hkC, -⟩ := hcls.2
  have h0 := hx.1
  have hlt : i.toNatClampNeg < n := by rw [hx.2.1]; exact hx.2.2
  have hasg : s.vm.assignable cellV.cls comp = true := by
    rw [g2]
    rcases hrc with z | z
    · have hcomp : comp = G.1.1 ci := Option.some.inj (k3.symm.trans (by rw [← z]; exact hcls.1))
      rw [hcomp]
      exact va_assign hcls
    · obtain ⟨c0, t9, f1, f2, f3⟩ := Cond.castable_spec (X.2.2.2.2.2.2.1 _ z args)
      cases hcls.1.symm.trans f1
      cases k3.symm.trans f2
      exact f3
  obtain ⟨kcomp, hkcomp, -⟩ := Vm.findClass_spec k3
  refine W.aast X.1 X.2.1 hA.2 (fun q h => by cases h) (fun h => by cases h) k1 k2 rfl hkcomp ⟨h0, by show _ < (arrV _ _ _).slots.size; rw [arrV_size]; exact hlt⟩ g1 (fun q h => by rw [g3] at h; cases h) (by rw [g2]; exact hkC) hasg rfl rfl d fun H1 e1 z1 oq => ?_
  refine K G p l e s m args below meth c H1 _ ls cells slots Q X (hR.up (Or.inr ⟨hA.1, ?_, (fun z => by cases z)⟩) z1 oq) ?_ hL hc hs hE
  · rw [e1]
    show some ((vp_cell (G.2.1 (.object RX3)) (n, .inr (.inr (.inr (.inr (fun j => (f j).map (pm_ro G))))))).setSlot i.toNatClampNeg (.ref (pm_ro G vad))) = some (vp_cell (G.2.1 (.object RX3)) (n, .inr (.inr (.inr (.inr (fun q => (va_up f j (some vad) q).map (pm_ro G)))))))
    rw [vp_cell_q, vp_cell_q, arrV_store, hx.2.1]
    congr 2
    funext q
    by_cases hq : q = j
    · subst hq
      simp [updV, va_up, va_rf]
    · simp [updV, va_up, hq]
  · intro q hq
    rcases List.mem_append.mp hq with z | z
    · exact hl q z
    · rw [List.mem_singleton.mp z]; exact pm_ro_pos hA.1
theorem r_aaldRX0 {n j : Nat} {f : Nat → Option Nat} {i : Int32} (hd : pm_D E pc 1 .aaload q) (hh : h.2 ad = some (.inl (.object RX0, n, .inr (.inr (.inr (.inr f)))))) (hx : pm_ix i j n) (K : pm_V E q L (va_rf (f j) :: st) h b F) : pm_V E pc L (.int i :: .ref ad :: st) h b F := by
  intro G p l e s m args below meth c H locs ls cells slots Q X hR hl hL hc hs hE
  obtain ⟨d, rfl⟩ := hd
  have hA := pm_arr (hR.2.2.2 ad _ hh) (fun z => by cases z)
  have hP : va_P G.1 vwCl [(pm_ro G ad, .inl (G.2.1 (.object RX0), n, .inr (.inr (.inr (.inr (fun j => (f j).map (pm_ro G)))))))] H := pm_one hA.2
  refine va_aldq (D := G.1) (cl := vwCl) X.1 X.2.1 X.2.2.2.2.2.1 hP 0 6 rfl rfl (pm_ix_in hx) d ?_
  have K := K G p l e s m args below meth c H locs ls cells slots Q X hR hl hL hc hs hE
  rw [hx.2.1]
  rw [List.map_cons, pm_rv_rf] at K
  exact K
theorem r_aastRX0 {n j vad ci : Nat} {fs : List Value} {f : Nat → Option Nat} {i : Int32} {r : vw_C} (hd : pm_D E pc 1 .aastore q) (hh : h.2 ad = some (.inl (.object RX0, n, .inr (.inr (.inr (.inr f)))))) (hv : h.2 vad = some (.inr (ci, fs))) (hci : vwCl[ci]? = some r) (hrc : r.1 = RX0 ∨ Cond.castable r.1 RX0 ∈ pm_tbl) (hx : pm_ix i j n) (K : pm_V E q L st (pm_up h ad (.inl (.object RX0, n, .inr (.inr (.inr (.inr (va_up f j (some vad)))))))) b F) : pm_V E pc L (.ref vad :: .int i :: .ref ad :: st) h b F := by
  intro G p l e s m args below meth c H locs ls cells slots Q X hR hl hL hc hs hE
  obtain ⟨d, rfl⟩ := hd
  have hA := pm_arr (hR.2.2.2 ad _ hh) (fun z => by cases z)
  obtain ⟨-, r', hr', cellV, g1, g2, g3, -⟩ := hR.2.2.2 vad _ hv
  have hcls := (X.2.2.2.2.2.1.1 ci r hci).2
  obtain ⟨kA, comp, k1, k2, k3, -⟩ := (X.2.2.2.2.2.1.2 6 (G.2.1 (.object RX0), .object RX0) rfl).2
  obtain ⟨kC, hkC, -⟩ := hcls.2
  have h0 := hx.1
  have hlt : i.toNatClampNeg < n := by rw [hx.2.1]; exact hx.2.2
  have hasg : s.vm.assignable cellV.cls comp = true := by
    rw [g2]
    rcases hrc with z | z
    · have hcomp : comp = G.1.1 ci := Option.some.inj (k3.symm.trans (by rw [← z]; exact hcls.1))
      rw [hcomp]
      exact va_assign hcls
    · obtain ⟨c0, t9, f1, f2, f3⟩ := Cond.castable_spec (X.2.2.2.2.2.2.1 _ z args)
      cases hcls.1.symm.trans f1
      cases k3.symm.trans f2
      exact f3
  obtain ⟨kcomp, hkcomp, -⟩ := Vm.findClass_spec k3
  refine W.aast X.1 X.2.1 hA.2 (fun q h => by cases h) (fun h => by cases h) k1 k2 rfl hkcomp ⟨h0, by show _ < (arrV _ _ _).slots.size; rw [arrV_size]; exact hlt⟩ g1 (fun q h => by rw [g3] at h; cases h) (by rw [g2]; exact hkC) hasg rfl rfl d fun H1 e1 z1 oq => ?_
  refine K G p l e s m args below meth c H1 _ ls cells slots Q X (hR.up (Or.inr ⟨hA.1, ?_, (fun z => by cases z)⟩) z1 oq) ?_ hL hc hs hE
  · rw [e1]
    show some ((vp_cell (G.2.1 (.object RX0)) (n, .inr (.inr (.inr (.inr (fun j => (f j).map (pm_ro G))))))).setSlot i.toNatClampNeg (.ref (pm_ro G vad))) = some (vp_cell (G.2.1 (.object RX0)) (n, .inr (.inr (.inr (.inr (fun q => (va_up f j (some vad) q).map (pm_ro G)))))))
    rw [vp_cell_q, vp_cell_q, arrV_store, hx.2.1]
    congr 2
    funext q
    by_cases hq : q = j
    · subst hq
      simp [updV, va_up, va_rf]
    · simp [updV, va_up, hq]
  · intro q hq
    rcases List.mem_append.mp hq with z | z
    · exact hl q z
    · rw [List.mem_singleton.mp z]; exact pm_ro_pos hA.1
theorem r_iast {n j : Nat} {f : Nat → Int32} {i : Int32} {x : Int32} (hd : pm_D E pc 1 .iastore q) (hh : h.2 ad = some (.inl (.int, n, .inl f))) (hx : pm_ix i j n) (K : pm_V E q L st (pm_up h ad (.inl (.int, n, .inl (upd f j x)))) b F) : pm_V E pc L (.int x :: .int i :: .ref ad :: st) h b F := by
  intro G p l e s m args below meth c H locs ls cells slots Q X hR hl hL hc hs hE
  obtain ⟨d, rfl⟩ := hd
  have hA := pm_arr (hR.2.2.2 ad _ hh) (by decide)
  refine W.iast X.1 X.2.1 hA.2 ((X.2.2.2.2.2.1.2 0 (G.2.1 .int, .int) rfl).1 n (fun j => .int (f j))) (fun q => by cases q) (by show ¬ (i < 0 ∨ (arrV _ _ _).slots.size ≤ _); rw [arrV_size]; exact pm_ix_in hx) rfl rfl d fun H1 e1 z1 oq => ?_
  refine K G p l e s m args below meth c H1 _ ls cells slots Q X (hR.up (Or.inr ⟨hA.1, ?_, (fun z => by cases z)⟩) z1 oq) ?_ hL hc hs hE
  · rw [e1]
    show some ((vp_cell (G.2.1 .int) (n, .inl f)).setSlot i.toNatClampNeg (.int x)) = some (vp_cell (G.2.1 .int) (n, .inl (upd f j x)))
    rw [vp_cell_i, vp_cell_i, arrV_store, hx.2.1]
    congr 2
    funext q
    by_cases hq : q = j
    · subst hq
      simp [updV, upd]
      try rfl
    · simp [updV, upd, hq]
  · intro q hq
    rcases List.mem_append.mp hq with z | z
    · exact hl q z
    · rw [List.mem_singleton.mp z]; exact pm_ro_pos hA.1
theorem r_bast {n j : Nat} {f : Nat → Int32} {i : Int32} {x : Int32} (hd : pm_D E pc 1 .bastore q) (hh : h.2 ad = some (.inl (.byte, n, .inl f))) (hx : pm_ix i j n) (K : pm_V E q L st (pm_up h ad (.inl (.byte, n, .inl (upd f j (vp_nar .byte x))))) b F) : pm_V E pc L (.int x :: .int i :: .ref ad :: st) h b F := by
  intro G p l e s m args below meth c H locs ls cells slots Q X hR hl hL hc hs hE
  obtain ⟨d, rfl⟩ := hd
  have hA := pm_arr (hR.2.2.2 ad _ hh) (by decide)
  refine W.bast X.1 X.2.1 hA.2 ((X.2.2.2.2.2.1.2 2 (G.2.1 .byte, .byte) rfl).1 n (fun j => .int (f j))) (fun q => by cases q) (by show ¬ (i < 0 ∨ (arrV _ _ _).slots.size ≤ _); rw [arrV_size]; exact pm_ix_in hx) rfl rfl d fun H1 e1 z1 oq => ?_
  refine K G p l e s m args below meth c H1 _ ls cells slots Q X (hR.up (Or.inr ⟨hA.1, ?_, (fun z => by cases z)⟩) z1 oq) ?_ hL hc hs hE
  · rw [e1]
    show some ((vp_cell (G.2.1 .byte) (n, .inl f)).setSlot i.toNatClampNeg (narrow .byte (.int x))) = some (vp_cell (G.2.1 .byte) (n, .inl (upd f j (vp_nar .byte x))))
    rw [vp_cell_i, vp_cell_i, arrV_store, hx.2.1]
    congr 2
    funext q
    by_cases hq : q = j
    · subst hq
      simp [updV, upd, vp_nar]
      try rfl
    · simp [updV, upd, vp_nar, hq]
  · intro q hq
    rcases List.mem_append.mp hq with z | z
    · exact hl q z
    · rw [List.mem_singleton.mp z]; exact pm_ro_pos hA.1
theorem r_zast {n j : Nat} {f : Nat → Int32} {i : Int32} {x : Int32} (hd : pm_D E pc 1 .bastore q) (hh : h.2 ad = some (.inl (.boolean, n, .inl f))) (hx : pm_ix i j n) (K : pm_V E q L st (pm_up h ad (.inl (.boolean, n, .inl (upd f j (vp_nar .boolean x))))) b F) : pm_V E pc L (.int x :: .int i :: .ref ad :: st) h b F := by
  intro G p l e s m args below meth c H locs ls cells slots Q X hR hl hL hc hs hE
  obtain ⟨d, rfl⟩ := hd
  have hA := pm_arr (hR.2.2.2 ad _ hh) (by decide)
  refine W.zast X.1 X.2.1 hA.2 ((X.2.2.2.2.2.1.2 3 (G.2.1 .boolean, .boolean) rfl).1 n (fun j => .int (f j))) (fun q => by cases q) (by show ¬ (i < 0 ∨ (arrV _ _ _).slots.size ≤ _); rw [arrV_size]; exact pm_ix_in hx) rfl rfl d fun H1 e1 z1 oq => ?_
  refine K G p l e s m args below meth c H1 _ ls cells slots Q X (hR.up (Or.inr ⟨hA.1, ?_, (fun z => by cases z)⟩) z1 oq) ?_ hL hc hs hE
  · rw [e1]
    show some ((vp_cell (G.2.1 .boolean) (n, .inl f)).setSlot i.toNatClampNeg (narrow .boolean (.int x))) = some (vp_cell (G.2.1 .boolean) (n, .inl (upd f j (vp_nar .boolean x))))
    rw [vp_cell_i, vp_cell_i, arrV_store, hx.2.1]
    congr 2
    funext q
    by_cases hq : q = j
    · subst hq
      simp [updV, upd, vp_nar]
      try rfl
    · simp [updV, upd, vp_nar, hq]
  · intro q hq
    rcases List.mem_append.mp hq with z | z
    · exact hl q z
    · rw [List.mem_singleton.mp z]; exact pm_ro_pos hA.1
theorem r_last {n j : Nat} {f : Nat → Int64} {i : Int32} {x : Int64} (hd : pm_D E pc 1 .lastore q) (hh : h.2 ad = some (.inl (.long, n, .inr (.inl f)))) (hx : pm_ix i j n) (K : pm_V E q L st (pm_up h ad (.inl (.long, n, .inr (.inl (vp_updL f j x))))) b F) : pm_V E pc L (.long x :: .int i :: .ref ad :: st) h b F := by
  intro G p l e s m args below meth c H locs ls cells slots Q X hR hl hL hc hs hE
  obtain ⟨d, rfl⟩ := hd
  have hA := pm_arr (hR.2.2.2 ad _ hh) (by decide)
  refine W.last X.1 X.2.1 hA.2 ((X.2.2.2.2.2.1.2 1 (G.2.1 .long, .long) rfl).1 n (fun j => .long (f j))) (fun q => by cases q) (by show ¬ (i < 0 ∨ (arrV _ _ _).slots.size ≤ _); rw [arrV_size]; exact pm_ix_in hx) rfl rfl d fun H1 e1 z1 oq => ?_
  refine K G p l e s m args below meth c H1 _ ls cells slots Q X (hR.up (Or.inr ⟨hA.1, ?_, (fun z => by cases z)⟩) z1 oq) ?_ hL hc hs hE
  · rw [e1]
    show some ((vp_cell (G.2.1 .long) (n, .inr (.inl f))).setSlot i.toNatClampNeg (.long x)) = some (vp_cell (G.2.1 .long) (n, .inr (.inl (vp_updL f j x))))
    rw [vp_cell_l, vp_cell_l, arrV_store, hx.2.1]
    congr 2
    funext q
    by_cases hq : q = j
    · subst hq
      simp [updV, vp_updL]
      try rfl
    · simp [updV, vp_updL, hq]
  · intro q hq
    rcases List.mem_append.mp hq with z | z
    · exact hl q z
    · rw [List.mem_singleton.mp z]; exact pm_ro_pos hA.1
theorem r_sld {n j : Nat} {f : Nat → Int32} {i : Int32} (hd : pm_D E pc 1 .iaload q) (hh : h.2 ad = some (.inl (.array .int, n, .inl f))) (hx : pm_ix i j n) (K : pm_V E q L (.int (f j) :: st) h b F) : pm_V E pc L (.int i :: .ref ad :: st) h b F := by
  intro G p l e s m args below meth c H locs ls cells slots Q X hR hl hL hc hs hE
  obtain ⟨d, rfl⟩ := hd
  rcases hR.2.2.2 ad _ hh with ⟨-, -, h1, h2, f', e', h3, h4⟩ | ⟨-, -, z⟩
  · have e2 : f = f' := Sum.inl.inj e'
    subst e2
    exact W.iald (v := .int (f j)) X.1 X.2.1 h1 X.2.2.2.2.2.2.2.2 h2 (by rw [h3]; exact pm_ix_in hx) (by rw [hx.2.1]; exact h4 j hx.2.2) rfl rfl d (K G p l e s m args below meth c H locs ls cells slots Q X hR hl hL hc hs hE)
  · exact absurd rfl z
theorem r_slen {n : Nat} {f : Nat → Int32} (hd : pm_D E pc 1 .arraylength q) (hh : h.2 ad = some (.inl (.array .int, n, .inl f))) (K : pm_V E q L (.int (nI n) :: st) h b F) : pm_V E pc L (.ref ad :: st) h b F := by
  intro G p l e s m args below meth c H locs ls cells slots Q X hR hl hL hc hs hE
  obtain ⟨d, rfl⟩ := hd
  rcases hR.2.2.2 ad _ hh with ⟨-, -, h1, h2, f', e', h3, h4⟩ | ⟨-, -, z⟩
  · exact W.alen (n := nI n) X.1 X.2.1 h1 X.2.2.2.2.2.2.2.2 (by rw [h3]; rfl) rfl rfl d (K G p l e s m args below meth c H locs ls cells slots Q X hR hl hL hc hs hE)
  · exact absurd rfl z
theorem r_alen {n t0 : Nat} {ty : FieldType} {x : vp_A} (hd : pm_D E pc 1 .arraylength q) (hh : h.2 ad = some (.inl (ty, x))) (ht : pm_tl[t0]? = some ty) (hta : ty ≠ .array .int) (hn : x.1 = n) (K : pm_V E q L (.int (nI n) :: st) h b F) : pm_V E pc L (.ref ad :: st) h b F := by
  intro G p l e s m args below meth c H locs ls cells slots Q X hR hl hL hc hs hE
  obtain ⟨d, rfl⟩ := hd
  have hA := pm_arr (hR.2.2.2 ad _ hh) hta
  have hP : va_P G.1 vwCl [(pm_ro G ad, .inl (G.2.1 ty, pm_ra G x))] H := pm_one hA.2
  refine va_alen (D := G.1) (cl := vwCl) (ty := ty) X.1 X.2.1 X.2.2.2.2.2.1 hP 0 t0 rfl (by rw [pm_tys, List.getElem?_map, ht]; rfl) (v := nI n) ?_ d (K G p l e s m args below meth c H locs ls cells slots Q X hR hl hL hc hs hE)
  subst hn
  obtain ⟨m9, f9 | f9 | f9 | f9 | f9⟩ := x <;> rfl
def pm_N (E : pm_E) (pc ci N : Nat) (fs : List Value) (q : Nat) : Prop := ∃ (idx : Nat) (C : String) (T : u_T) (ty0 : Nat → FieldType), decode (pm_cc E) pc = .ok (.new idx, 3) ∧ pc + 3 = q ∧ vwCl[ci]? = some (C, T, N) ∧ Cond.classLink E.1.cls idx C ∈ pm_tbl ∧ Cond.instantiable C N ∈ pm_tbl ∧ Cond.initialized C ∈ pm_tbl ∧ (∀ w ∈ u_ws C T N, w ∈ pm_tbl) ∧ (∀ j, j < N → parseFieldDescriptor (T j).2.2.1 = some (ty0 j)) ∧ ∀ j, j < N → defaultValue (ty0 j) = vp_V fs j
theorem pm_V_nul {G : pm_G} {ty : FieldType} : pm_rv G (defaultValue ty) = defaultValue ty := by cases ty <;> rfl
theorem r_new {ci N : Nat} {fs : List Value} {b' : Nat × Nat} (hd : pm_N E pc ci N fs q) (hb1 : b'.1 + 1 = b.1) (hb2 : b'.2 + N = b.2) (K : pm_V E q L (.ref h.1 :: st) (pm_nw h (.inr (ci, fs))) b' F) : pm_V E pc L st h b F := by
  intro G p l e s m args below meth c H locs ls cells slots Q X hR hl hL hc hs hE
  obtain ⟨idx, C, T, ty0, d, rfl, hci, w1, w2, w3, hin, hty, hfs⟩ := hd
  have hts : ∀ w ∈ pm_tbl, w.before args s = true := fun w hw => X.2.2.2.2.2.2.1 w hw args
  have hKn := X.2.2.2.2.2.1.1 ci _ hci
  refine W.newcK X.1 X.2.1 X.2.2.2.1 (hts _ w1) (hts _ w2) (hts _ w3) rfl d (by omega) (by omega) hKn.2.1 hR.2.2.1 fun H1 kC hkC e1 z1 o1 => ?_
  refine K G p l e s m args below meth c H1 locs ls (cells + 1) (slots + N) Q X (hR.nw ⟨hR.2.1, ?_⟩ (by rw [z1, hR.2.2.1]) (by rw [hR.2.2.1]; exact o1)) hl hL (by omega) (by omega) hE
  refine ⟨_, hci, (u_born ty0 hts hin hKn hkC e1 hty).to (fun j hj => ?_)⟩
  have e5 := hfs j hj
  show defaultValue (ty0 j) = (fs.map (pm_rv G)).getD j .null
  have e6 : (fs.map (pm_rv G)).getD j .null = pm_rv G (fs.getD j .null) := by
    rw [List.getD_eq_getElem?_getD, List.getD_eq_getElem?_getD, List.getElem?_map]
    cases fs[j]? <;> rfl
  rw [e6]
  show _ = pm_rv G (vp_V fs j)
  rw [← e5, pm_V_nul]
theorem r_newa {aty : ArrayType} {ty : FieldType} {t0 N : Nat} {n : Int32} {x : vp_A} {b' : Nat × Nat} (hd : pm_D E pc 2 (.newarray aty) q) (hty : newarray.typeOf aty = ty) (ht : pm_tl[t0]? = some ty) (hw : Cond.arrayClass ty ∈ pm_tbl) (hx : ∀ (G : pm_G) (cA : ClassId), vp_cell cA (pm_ra G x) = arrV cA N (fun _ => defaultValue ty)) (hn : ¬ n < 0) (hN : n.toNatClampNeg = N) (hby : N * componentBytes ty ≤ 536870912) (hb1 : b'.1 + 1 = b.1) (hb2 : b'.2 + N = b.2) (hta : ty ≠ .array .int) (hto : ∀ C, ty ≠ .object C) (K : pm_V E q L (.ref h.1 :: st) (pm_nw h (.inl (ty, x))) b' F) : pm_V E pc L (.int n :: st) h b F := by
  intro G p l e s m args below meth c H locs ls cells slots Q X hR hl hL hc hs hE
  obtain ⟨d, rfl⟩ := hd
  subst hty
  refine va_newaK X.1 X.2.1 (X.2.2.2.2.2.2.1 _ hw args) rfl d rfl hn hN hby (by omega) (by omega) hR.2.2.1 fun H1 cA e1 z1 o1 hAr hNm => ?_
  have hra := (X.2.2.2.2.2.1.2 t0 (G.2.1 (newarray.typeOf aty), newarray.typeOf aty) (by rw [pm_tys, List.getElem?_map, ht]; rfl)).2
  have hcA : cA = G.2.1 (newarray.typeOf aty) := by
    have h9 : s.vm.findClass ("[" ++ (newarray.typeOf aty).toString) = some (G.2.1 (newarray.typeOf aty)) := by
      revert hra
      cases aty <;> exact id
    exact Option.some.inj (hNm.symm.trans h9)
  refine K G p l e s m args below meth c H1 locs ls (cells + 1) (slots + N) Q X (hR.nw (Or.inr ⟨hR.2.1, ?_, hta⟩) (by rw [z1, hR.2.2.1]) (by rw [hR.2.2.1]; exact o1)) hl hL (by omega) (by omega) hE
  rw [e1, hx, hcA]
theorem r_newq {C : String} {t0 N : Nat} {n : Int32} {b' : Nat × Nat} {idx : Nat} (hd : pm_D E pc 3 (.anewarray idx) q) (w1 : Cond.classLink E.1.cls idx C ∈ pm_tbl) (w2 : Cond.arrayOver (.object C) ∈ pm_tbl) (ht : pm_tl[t0]? = some (.object C)) (hn : ¬ n < 0) (hN : n.toNatClampNeg = N) (hby : N * 4 ≤ 536870912) (hb1 : b'.1 + 1 = b.1) (hb2 : b'.2 + N = b.2) (K : pm_V E q L (.ref h.1 :: st) (pm_nw h (.inl (.object C, N, .inr (.inr (.inr (.inr (fun _ => none))))))) b' F) : pm_V E pc L (.int n :: st) h b F := by
  intro G p l e s m args below meth c H locs ls cells slots Q X hR hl hL hc hs hE
  obtain ⟨d, rfl⟩ := hd
  subst hN
  refine W.anew X.1 X.2.1 X.2.2.2.1 (X.2.2.2.2.2.2.1 _ w1 args) (X.2.2.2.2.2.2.1 _ w2 args) rfl d rfl hn hby (by omega) (by omega) fun cA kA comp f1 f2 f3 f4 => ?_
  generalize hH1 : H.push ({ cls := cA, slots := Array.replicate n.toNatClampNeg .null, vm := .none } : Cell) = H1
  have z1 : H1.size = H.size + 1 := by rw [← hH1, Array.size_push]
  have e1 : H1[H.size]? = some (arrV cA n.toNatClampNeg (fun _ => .null)) := by rw [← hH1, Array.getElem?_push_size, ← arrV_new]
  have o1 : ∀ q : Nat, q < H.size → H1[q]? = H[q]? := fun q hq => by rw [← hH1, Array.getElem?_push, if_neg (Nat.ne_of_lt hq)]
  obtain ⟨kB, comp', g1, g2, g3, g4⟩ := (X.2.2.2.2.2.1.2 t0 (G.2.1 (.object C), .object C) (by rw [pm_tys, List.getElem?_map, ht]; rfl)).2
  have hcA : cA = G.2.1 (.object C) := Option.some.inj (f1.symm.trans g4)
  have K' := K G p l e s m args below meth c H1 locs ls (cells + 1) (slots + n.toNatClampNeg) Q X (hR.nw (Or.inr ⟨hR.2.1, (by rw [← hR.2.2.1, e1, hcA]; rfl), (fun z => by cases z)⟩) z1 o1) hl hL (by omega) (by omega) hE
  rw [List.map_cons] at K'
  have e7 : pm_rv G (.ref h.1) = .ref H.size := by show Value.ref (pm_ro G h.1) = _; rw [hR.2.2.1]
  rw [e7] at K'
  exact K'
theorem pm_recv {G : pm_G} {ci : Nat} {fs : List Value} {s : State} {H : Heap} {r : vw_C} (hK : pm_K G s) (hR : pm_R G h H) (hh : h.2 ad = some (.inr (ci, fs))) (hci : vwCl[ci]? = some r) : ∃ cell : Cell, H[pm_ro G ad]? = some cell ∧ cell.vm.isStatics = false ∧ s.vm.findClass r.1 = some cell.cls := by
  obtain ⟨-, q', h1, cell, g1, g2, g3, -⟩ := hR.2.2.2 ad _ hh
  exact ⟨cell, g1, by rw [g3]; rfl, by rw [g2]; exact (hK.1.1 ci r hci).2.1⟩
theorem r_instY {idx ci : Nat} {nm : String} {r : vw_C} {fs : List Value} (hd : pm_D E pc 3 (.instanceof idx) q) (w1 : Cond.classLink E.1.cls idx nm ∈ pm_tbl) (hh : h.2 ad = some (.inr (ci, fs))) (hci : vwCl[ci]? = some r) (hrc : r.1 = nm ∨ Cond.castable r.1 nm ∈ pm_tbl) (K : pm_V E q L (.int 1 :: st) h b F) : pm_V E pc L (.ref ad :: st) h b F := by
  intro G p l e s m args below meth c H locs ls cells slots Q X hR hl hL hc hs hE
  obtain ⟨d, rfl⟩ := hd
  rcases hrc with z | z
  · subst z
    exact va_instS X.1 X.2.1 X.2.2.2.1 (X.2.2.2.2.2.2.1 _ w1 args) (X.2.2.2.2.2.1.1 ci r hci).2 (pm_recv X.2.2.2.2.2 hR hh hci) d (K G p l e s m args below meth c H locs ls cells slots Q X hR hl hL hc hs hE)
  · exact va_instY X.1 X.2.1 X.2.2.2.1 (X.2.2.2.2.2.2.1 _ w1 args) (X.2.2.2.2.2.2.1 _ z #[]) (pm_recv X.2.2.2.2.2 hR hh hci) d (K G p l e s m args below meth c H locs ls cells slots Q X hR hl hL hc hs hE)
theorem r_instNo {idx ci : Nat} {nm : String} {r : vw_C} {fs : List Value} (hd : pm_D E pc 3 (.instanceof idx) q) (w1 : Cond.classLink E.1.cls idx nm ∈ pm_tbl) (hh : h.2 ad = some (.inr (ci, fs))) (hci : vwCl[ci]? = some r) (hrc : (r.1, nm) ∈ pm_no) (K : pm_V E q L (.int 0 :: st) h b F) : pm_V E pc L (.ref ad :: st) h b F := by
  intro G p l e s m args below meth c H locs ls cells slots Q X hR hl hL hc hs hE
  obtain ⟨d, rfl⟩ := hd
  exact va_instNo X.1 X.2.1 X.2.2.2.1 (X.2.2.2.2.2.2.1 _ w1 args) (X.2.2.2.2.2.2.2.1 _ hrc) (pm_recv X.2.2.2.2.2 hR hh hci) d (K G p l e s m args below meth c H locs ls cells slots Q X hR hl hL hc hs hE)
theorem r_cast {idx ci : Nat} {nm : String} {r : vw_C} {fs : List Value} (hd : pm_D E pc 3 (.checkcast idx) q) (w1 : Cond.classLink E.1.cls idx nm ∈ pm_tbl) (hh : h.2 ad = some (.inr (ci, fs))) (hci : vwCl[ci]? = some r) (hrc : r.1 = nm ∨ Cond.castable r.1 nm ∈ pm_tbl) (K : pm_V E q L (.ref ad :: st) h b F) : pm_V E pc L (.ref ad :: st) h b F := by
  intro G p l e s m args below meth c H locs ls cells slots Q X hR hl hL hc hs hE
  obtain ⟨d, rfl⟩ := hd
  rcases hrc with z | z
  · subst z
    exact va_castS X.1 X.2.1 X.2.2.2.1 (X.2.2.2.2.2.2.1 _ w1 args) (X.2.2.2.2.2.1.1 ci r hci).2 (pm_recv X.2.2.2.2.2 hR hh hci) d (K G p l e s m args below meth c H locs ls cells slots Q X hR hl hL hc hs hE)
  · exact va_castY X.1 X.2.1 X.2.2.2.1 (X.2.2.2.2.2.2.1 _ w1 args) (X.2.2.2.2.2.2.1 _ z #[]) (pm_recv X.2.2.2.2.2 hR hh hci) d (K G p l e s m args below meth c H locs ls cells slots Q X hR hl hL hc hs hE)
theorem r_objInit {idx : Nat} (hd : pm_D E pc 3 (.invokespecial idx) q) (w1 : Cond.methodLink E.1.cls idx Lib.objectInit ∈ pm_tbl) (w2 : Cond.instanceMethod Lib.objectInit ∈ pm_tbl) (w3 : Cond.code Lib.objectInit ⟨#[0xb1]⟩ 1 none ∈ pm_tbl) (hf : 1 ≤ (pm_rm E).frames) (hlo : (st.map fun v => v.category).sum + 12 ≤ (pm_rm E).locals) (K : pm_V E q L st h b F) : pm_V E pc L (.ref ad :: st) h b F := by
  intro G p l e s m args below meth c H locs ls cells slots Q X hR hl hL hc hs hE
  obtain ⟨d, rfl⟩ := hd
  refine W.objInit X.1 X.2.1 X.2.2.2.1 (X.2.2.2.2.2.2.1 _ w1 args) (X.2.2.2.2.2.2.1 _ w2 args) (X.2.2.2.2.2.2.1 _ w3 args) rfl (by rw [X.2.2.1]; exact hL.1) rfl d hf ?_ (K G p l e s m args below meth c H locs ls cells slots Q X hR hl hL hc hs hE)
  show 2 * 0 + ((st.map (pm_rv G)).map fun v => v.category).sum + 12 ≤ _
  rw [pm_rv_cats]
  omega
/-- what fits of a callee -/
def pm_fit (E E' : pm_E) (n : Nat) : Prop := (pm_rm E').frames + 1 ≤ (pm_rm E).frames ∧ 8 + (pm_nL E' + 11) + (pm_rm E').locals ≤ (pm_rm E).locals ∧ Cond.code E'.1 (pm_cc E') (pm_nL E') (pm_rt E') ∈ pm_tbl ∧ Cond.initialized E'.1.cls ∈ pm_tbl ∧ (E'.1.cls ≠ "java/lang/invoke/MethodHandle" ∧ E'.1.cls ≠ "java/lang/invoke/VarHandle") ∧ (parseMethodDescriptor E'.1.desc).map (fun d => d.parameters.length) = some n
theorem pm_blind {G : pm_G} {av : List Value} : FrameBlind (va_Pc (av.map (pm_rv G)) (fun U => pm_K G U ∧ pm_R G h U.heap)) := by
  intro a9 U g mk q9
  obtain ⟨e1, e2, e3⟩ := q9
  exact ⟨e1, e2.warm (U := U.calling g mk a9) (State.WarmedH.refl U), e3⟩
/-- behind any call -/
theorem pm_after {G : pm_G} {p : Program} {l : Launch} {e : Env} {s : State} {m : MethodId} {args : Array Value} {below : List Frame} {meth : Method} {c : Code} {H : Heap} {locs : List Loc} {ls : Array Slot} {cells slots mc ms : Nat} {Q : State → Prop} {st0 : List Value} {P : Option Value → pm_H → Prop} {b' : Nat × Nat}
    (X : pm_X E G p s m meth c) (hl : ∀ q ∈ locs, G.2.2.2.2 ≤ q.base) (hL : pm_L G L ls (pm_nL E)) (hE : pm_End E G p l e s m args below meth c Q F) (hc : cells + mc + b'.1 ≤ (pm_rm E).cells) (hs : slots + ms + b'.2 ≤ (pm_rm E).slots)
    (hr : va_Run p l e (pm_rm E) s m args below meth c H locs cells slots mc ms (F0 m pc ls st0) (st.map (pm_rv G)) (fun _ o t => ∃ (v : Option Value) (h1 : pm_H), o = .returned (v.map (pm_rv G)) ∧ P v h1 ∧ pm_R G h1 t.heap) (fun q => G.2.2.2.2 ≤ q))
    (K : ∀ v h1, P v h1 → pm_V E (pc + 3) L (v.toList ++ st) h1 b' F) : W p l e (pm_rm E) s m args below meth c H locs cells slots Q (F0 m pc ls st0) := by
  intro T hT XX
  obtain ⟨v, st₀, t, T', L9, h0, X', hL9, e1, e2, ⟨v2, h1, hv, hp, hR1⟩, go⟩ := hr T hT XX
  cases hv
  obtain ⟨t2, a1, b1⟩ := K v2 h1 hp G p l e s m args below meth c T'.heap (locs ++ L9) ls (cells + mc) (slots + ms) Q X (by rw [e1]; exact hR1) (fun q hq => by
      rcases List.mem_append.mp hq with z | z
      · exact hl q z
      · exact hL9 q z) hL (by omega) (by omega) hE T' rfl X'
  refine ⟨t2, go t2 ?_, b1⟩
  have e9 : (v2.toList ++ st).map (pm_rv G) = (v2.map (pm_rv G)).toList ++ st.map (pm_rv G) := by cases v2 <;> simp
  rw [← e9]
  exact a1
def pm_kV (E : pm_E) (pc : Nat) (E' : pm_E) (C : String) (n q : Nat) : Prop := ∃ idx : Nat, decode (pm_cc E) pc = .ok (.invokevirtual idx, 3) ∧ pc + 3 = q ∧ pm_fit E E' n ∧ Cond.instanceMethod E'.1 ∈ pm_tbl ∧
  ((Cond.methodLink E.1.cls idx E'.1 ∈ pm_tbl ∧ Cond.selects C E'.1 E'.1 ∈ pm_tbl) ∨ (∃ host, Cond.methodLinkNest E.1.cls idx E'.1 host ∈ pm_tbl ∧ Cond.selects C E'.1 E'.1 ∈ pm_tbl) ∨
   (∃ (x : MethodName) (owner : String) (b0 : ByteArray) (m0 : Nat) (r0 : Option FieldType), Cond.methodLink E.1.cls idx x ∈ pm_tbl ∧ Cond.sameMethod x.cls owner x.name x.desc ∈ pm_tbl ∧ Cond.selects C x E'.1 ∈ pm_tbl ∧ (owner ≠ "java/lang/invoke/MethodHandle" ∧ owner ≠ "java/lang/invoke/VarHandle") ∧ Cond.instanceMethod ⟨owner, x.name, x.desc⟩ ∈ pm_tbl ∧ Cond.code ⟨owner, x.name, x.desc⟩ b0 m0 r0 ∈ pm_tbl ∧ (parseMethodDescriptor x.desc).map (fun d => d.parameters.length) = some n))
theorem pm_len {d : String} {n : Nat} (h2 : (parseMethodDescriptor d).map (fun d => d.parameters.length) = some n) : ∀ sig, parseMethodDescriptor d = some sig → n = sig.parameters.length := fun sig hsig => by rw [hsig] at h2; exact (Option.some.inj h2).symm
theorem r_callVa {E' : pm_E} {C : String} {n ci : Nat} {r : vw_C} {fs As st0 : List Value} {P : Option Value → pm_H → Prop} {b' : Nat × Nat} (hd : pm_kV E pc E' C n q) (hci : vwCl[ci]? = some r) (hrc : r.1 = C) (hh : h.2 ad = some (.inr (ci, fs))) (hn : As.length = n) (hst : st0 = As.reverse ++ .ref ad :: st) (hcat : (st.map fun v => v.category).sum ≤ 8) (hb1 : b'.1 + (pm_rm E').cells ≤ b.1) (hb2 : b'.2 + (pm_rm E').slots ≤ b.2) (hC : pm_Cl E' (.ref ad :: As) h P) (K : ∀ v h1, P v h1 → pm_V E q L (v.toList ++ st) h1 b' F) : pm_V E pc L st0 h b F := by
  intro G p l e s m args below meth c H locs ls cells slots Q X hR hl hL hc hs hE
  obtain ⟨idx, d, rfl, ⟨g1, g2, g3, g4, g5, g6⟩, w2, hk⟩ := hd
  have hts : ∀ w ∈ pm_tbl, ∀ a9, w.before a9 s = true := X.2.2.2.2.2.2.1
  have hM := hC l G
  have hws : ∀ w ∈ [Cond.code E'.1 (pm_cc E') (pm_nL E') (pm_rt E')], ∀ (a' : Array Value) (U : State), s.WarmedH U.vm → w.before a' U = true := fun w hw a' U hW => (X.2.2.2.2.2.warm hW).2.1 w (by rw [List.mem_singleton.mp hw]; exact g3) a'
  subst hrc
  have hPre : PreV s H r.1 (pm_ro G ad) (va_Pc ((Value.ref ad :: As).map (pm_rv G)) (fun U => pm_K G U ∧ pm_R G h U.heap)) (As.map (pm_rv G)) := ⟨pm_blind, pm_recv X.2.2.2.2.2 hR hh hci, fun U hU hW => ⟨rfl, X.2.2.2.2.2.warm hW, by rw [hU]; exact hR⟩⟩
  have hstk : (F0 m pc ls (st0.map (pm_rv G))).stack = (As.map (pm_rv G)).reverse ++ .ref (pm_ro G ad) :: st.map (pm_rv G) := by
    show st0.map (pm_rv G) = _
    rw [hst, List.map_append, List.map_reverse]
    rfl
  have hcat' : 2 * (F0 m pc ls (st0.map (pm_rv G))).monitorRoom + ((st.map (pm_rv G)).map fun v => v.category).sum ≤ 8 := by rw [pm_rv_cats]; exact lv_room hcat
  have S : CallFix p m c (pm_cc E) (pm_nL E) s args pm_tbl E.1.cls := ⟨X.1, X.2.1, X.2.2.1, X.2.2.2.1, fun w hw => hts w hw args⟩
  have hf : cells + (pm_rm E').cells ≤ (pm_rm E).cells ∧ slots + (pm_rm E').slots ≤ (pm_rm E).slots := ⟨by omega, by omega⟩
  rcases hk with ⟨w1, w3⟩ | ⟨host, w1, w3⟩ | ⟨x, owner, b0, m0, r0, w1, w3, w4, w5, w6, w7, w8⟩
  · exact pm_after X hl hL hE (by omega) (by omega) (va_runV S hM ⟨⟨rfl, rfl, g1, g2, hws, List.mem_singleton.mpr rfl, hts _ g3 args, hts _ g4 args, g5, pm_len g6, hts _ w1 args⟩, hts _ w2 args, hts _ w3 args⟩ hPre rfl (by rw [List.length_map]; exact hn) hL.1 hstk hcat' d hf) K
  · exact pm_after X hl hL hE (by omega) (by omega) (va_runVN S hM ⟨⟨⟨rfl, rfl, g1, g2, hws, List.mem_singleton.mpr rfl⟩, hts _ g3 args, hts _ g4 args, g5, pm_len g6, hts _ w1 args⟩, hts _ w2 args, hts _ w3 args⟩ hPre rfl (by rw [List.length_map]; exact hn) hL.1 hstk hcat' d hf) K
  · exact pm_after X hl hL hE (by omega) (by omega) (va_runU S hM ⟨⟨rfl, rfl, g1, g2, hws, List.mem_singleton.mpr rfl⟩, hts _ g3 args, hts _ g4 args, w5, pm_len w8, hts _ w1 args, hts _ w3 args, va_Decl.of (hts _ w6 args) (hts _ w7 args), hts _ w4 args, hts _ w2 args⟩ hPre rfl (by rw [List.length_map]; exact hn) hL.1 hstk hcat' d hf) K
def pm_kS (E : pm_E) (pc : Nat) (E' : pm_E) (n q : Nat) : Prop := ∃ idx : Nat, decode (pm_cc E) pc = .ok (.invokestatic idx, 3) ∧ pc + 3 = q ∧ pm_fit E E' n ∧ Cond.static E'.1 ∈ pm_tbl ∧ (Cond.methodLink E.1.cls idx E'.1 ∈ pm_tbl ∨ ∃ host, Cond.methodLinkNest E.1.cls idx E'.1 host ∈ pm_tbl)
theorem r_callSa {E' : pm_E} {n : Nat} {As st0 : List Value} {P : Option Value → pm_H → Prop} {b' : Nat × Nat} (hd : pm_kS E pc E' n q) (hn : As.length = n) (hst : st0 = As.reverse ++ st) (hcat : (st.map fun v => v.category).sum ≤ 8) (hb1 : b'.1 + (pm_rm E').cells ≤ b.1) (hb2 : b'.2 + (pm_rm E').slots ≤ b.2) (hC : pm_Cl E' As h P) (K : ∀ v h1, P v h1 → pm_V E q L (v.toList ++ st) h1 b' F) : pm_V E pc L st0 h b F := by
  intro G p l e s m args below meth c H locs ls cells slots Q X hR hl hL hc hs hE
  obtain ⟨idx, d, rfl, ⟨g1, g2, g3, g4, g5, g6⟩, w2, hk⟩ := hd
  have hts : ∀ w ∈ pm_tbl, ∀ a9, w.before a9 s = true := X.2.2.2.2.2.2.1
  have hM := hC l G
  have hws : ∀ w ∈ [Cond.code E'.1 (pm_cc E') (pm_nL E') (pm_rt E')], ∀ (a' : Array Value) (U : State), s.WarmedH U.vm → w.before a' U = true := fun w hw a' U hW => (X.2.2.2.2.2.warm hW).2.1 w (by rw [List.mem_singleton.mp hw]; exact g3) a'
  have hPre : PreS s H (va_Pc (As.map (pm_rv G)) (fun U => pm_K G U ∧ pm_R G h U.heap)) (As.map (pm_rv G)) := ⟨pm_blind, fun U hU hW => ⟨rfl, X.2.2.2.2.2.warm hW, by rw [hU]; exact hR⟩⟩
  have hstk : (F0 m pc ls (st0.map (pm_rv G))).stack = (As.map (pm_rv G)).reverse ++ st.map (pm_rv G) := by
    show st0.map (pm_rv G) = _
    rw [hst, List.map_append, List.map_reverse]
  have hcat' : 2 * (F0 m pc ls (st0.map (pm_rv G))).monitorRoom + ((st.map (pm_rv G)).map fun v => v.category).sum ≤ 8 := by rw [pm_rv_cats]; exact lv_room hcat
  have S : CallFix p m c (pm_cc E) (pm_nL E) s args pm_tbl E.1.cls := ⟨X.1, X.2.1, X.2.2.1, X.2.2.2.1, fun w hw => hts w hw args⟩
  have hf : cells + (pm_rm E').cells ≤ (pm_rm E).cells ∧ slots + (pm_rm E').slots ≤ (pm_rm E).slots := ⟨by omega, by omega⟩
  rcases hk with w1 | ⟨host, w1⟩
  · exact pm_after X hl hL hE (by omega) (by omega) (va_runS S hM ⟨⟨rfl, rfl, g1, g2, hws, List.mem_singleton.mpr rfl, hts _ g3 args, hts _ g4 args, g5, pm_len g6, hts _ w1 args⟩, hts _ w2 args⟩ hPre rfl (by rw [List.length_map]; exact hn) hL.1 hstk hcat' d hf) K
  · exact pm_after X hl hL hE (by omega) (by omega) (va_runSN S hM ⟨⟨⟨rfl, rfl, g1, g2, hws, List.mem_singleton.mpr rfl⟩, hts _ g3 args, hts _ g4 args, g5, pm_len g6, hts _ w1 args⟩, hts _ w2 args, trivial⟩ hPre rfl (by rw [List.length_map]; exact hn) hL.1 hstk hcat' d hf) K
def pm_kI (E : pm_E) (pc : Nat) (E' : pm_E) (n q : Nat) : Prop := ∃ idx : Nat, decode (pm_cc E) pc = .ok (.invokespecial idx, 3) ∧ pc + 3 = q ∧ pm_fit E E' n ∧ pm_rt E' = none ∧ E'.1.name = "<init>" ∧ Cond.instanceMethod E'.1 ∈ pm_tbl ∧ (Cond.methodLink E.1.cls idx E'.1 ∈ pm_tbl ∨ ∃ host, Cond.methodLinkNest E.1.cls idx E'.1 host ∈ pm_tbl)
theorem r_callIa {E' : pm_E} {n : Nat} {As st0 : List Value} {P : Option Value → pm_H → Prop} {b' : Nat × Nat} (hd : pm_kI E pc E' n q) (hn : As.length = n) (hst : st0 = As.reverse ++ .ref ad :: st) (hcat : (st.map fun v => v.category).sum ≤ 8) (hb1 : b'.1 + (pm_rm E').cells ≤ b.1) (hb2 : b'.2 + (pm_rm E').slots ≤ b.2) (hC : pm_Cl E' (.ref ad :: As) h P) (K : ∀ v h1, P v h1 → pm_V E q L (v.toList ++ st) h1 b' F) : pm_V E pc L st0 h b F := by
  intro G p l e s m args below meth c H locs ls cells slots Q X hR hl hL hc hs hE
  obtain ⟨idx, d, rfl, ⟨g1, g2, g3, g4, g5, g6⟩, hrt, hnm, w2, hk⟩ := hd
  have hts : ∀ w ∈ pm_tbl, ∀ a9, w.before a9 s = true := X.2.2.2.2.2.2.1
  have hM := hC l G
  rw [hrt] at hM g3
  have hws : ∀ w ∈ [Cond.code E'.1 (pm_cc E') (pm_nL E') none], ∀ (a' : Array Value) (U : State), s.WarmedH U.vm → w.before a' U = true := fun w hw a' U hW => (X.2.2.2.2.2.warm hW).2.1 w (by rw [List.mem_singleton.mp hw]; exact g3) a'
  have hPre : PreS s H (va_Pc ((Value.ref ad :: As).map (pm_rv G)) (fun U => pm_K G U ∧ pm_R G h U.heap)) (.ref (pm_ro G ad) :: As.map (pm_rv G)) := ⟨pm_blind, fun U hU hW => ⟨rfl, X.2.2.2.2.2.warm hW, by rw [hU]; exact hR⟩⟩
  have hstk : (F0 m pc ls (st0.map (pm_rv G))).stack = (As.map (pm_rv G)).reverse ++ .ref (pm_ro G ad) :: st.map (pm_rv G) := by
    show st0.map (pm_rv G) = _
    rw [hst, List.map_append, List.map_reverse]
    rfl
  have hcat' : 2 * (F0 m pc ls (st0.map (pm_rv G))).monitorRoom + ((st.map (pm_rv G)).map fun v => v.category).sum ≤ 8 := by rw [pm_rv_cats]; exact lv_room hcat
  have S : CallFix p m c (pm_cc E) (pm_nL E) s args pm_tbl E.1.cls := ⟨X.1, X.2.1, X.2.2.1, X.2.2.2.1, fun w hw => hts w hw args⟩
  have hf : cells + (pm_rm E').cells ≤ (pm_rm E).cells ∧ slots + (pm_rm E').slots ≤ (pm_rm E).slots := ⟨by omega, by omega⟩
  rcases hk with w1 | ⟨host, w1⟩
  · exact pm_after X hl hL hE (by omega) (by omega) (va_runI S hM ⟨⟨rfl, rfl, g1, g2, hws, List.mem_singleton.mpr rfl, hts _ g3 args, hts _ g4 args, g5, pm_len g6, hts _ w1 args⟩, hnm, hts _ w2 args⟩ hPre rfl (by rw [List.length_map]; exact hn) hL.1 hstk hcat' d hf) K
  · exact pm_after X hl hL hE (by omega) (by omega) (va_runIN S hM ⟨⟨⟨rfl, rfl, g1, g2, hws, List.mem_singleton.mpr rfl⟩, hts _ g3 args, hts _ g4 args, g5, pm_len g6, hts _ w1 args⟩, hnm, hts _ w2 args⟩ hPre rfl (by rw [List.length_map]; exact hn) hL.1 hstk hcat' d hf) K
/-- calls of methods that make nothing -/
theorem r_callV {E' : pm_E} {C : String} {n ci : Nat} {r : vw_C} {fs As st0 : List Value} {P : Option Value → pm_H → Prop} (hd : pm_kV E pc E' C n q) (hci : vwCl[ci]? = some r) (hrc : r.1 = C) (hh : h.2 ad = some (.inr (ci, fs))) (hn : As.length = n) (hst : st0 = As.reverse ++ .ref ad :: st) (hcat : (st.map fun v => v.category).sum ≤ 8) (h0 : (pm_rm E').cells = 0 ∧ (pm_rm E').slots = 0) (hC : pm_Cl E' (.ref ad :: As) h P) (K : ∀ v h1, P v h1 → pm_V E q L (v.toList ++ st) h1 b F) : pm_V E pc L st0 h b F :=
  r_callVa (b' := b) hd hci hrc hh hn hst hcat (by rw [h0.1]; omega) (by rw [h0.2]; omega) hC K
theorem r_callS {E' : pm_E} {n : Nat} {As st0 : List Value} {P : Option Value → pm_H → Prop} (hd : pm_kS E pc E' n q) (hn : As.length = n) (hst : st0 = As.reverse ++ st) (hcat : (st.map fun v => v.category).sum ≤ 8) (h0 : (pm_rm E').cells = 0 ∧ (pm_rm E').slots = 0) (hC : pm_Cl E' As h P) (K : ∀ v h1, P v h1 → pm_V E q L (v.toList ++ st) h1 b F) : pm_V E pc L st0 h b F :=
  r_callSa (b' := b) hd hn hst hcat (by rw [h0.1]; omega) (by rw [h0.2]; omega) hC K
theorem r_callI {E' : pm_E} {n : Nat} {As st0 : List Value} {P : Option Value → pm_H → Prop} (hd : pm_kI E pc E' n q) (hn : As.length = n) (hst : st0 = As.reverse ++ .ref ad :: st) (hcat : (st.map fun v => v.category).sum ≤ 8) (h0 : (pm_rm E').cells = 0 ∧ (pm_rm E').slots = 0) (hC : pm_Cl E' (.ref ad :: As) h P) (K : ∀ v h1, P v h1 → pm_V E q L (v.toList ++ st) h1 b F) : pm_V E pc L st0 h b F :=
  r_callIa (b' := b) hd hn hst hcat (by rw [h0.1]; omega) (by rw [h0.2]; omega) hC K
theorem r_copyi {a0 n0 n1 sp dp k t0 : Nat} {idx : Nat} {ty : FieldType} {f g : Nat → Int32} {isp idp ik : Int32} (hd : pm_D E pc 3 (.invokestatic idx) q) (w1 : Cond.methodLink E.1.cls idx arraycopyName ∈ pm_tbl) (w2 : Cond.native arraycopyName ∈ pm_tbl) (w3 : Cond.static arraycopyName ∈ pm_tbl) (w4 : Cond.initialized "java/lang/System" ∈ pm_tbl) (ht : pm_tl[t0]? = some ty) (hprim : refKind ty = false) (hh0 : h.2 a0 = some (.inl (ty, n0, .inl f))) (hh1 : h.2 ad = some (.inl (ty, n1, .inl g))) (hx1 : ¬ isp < 0 ∧ isp.toNatClampNeg = sp) (hx2 : ¬ idp < 0 ∧ idp.toNatClampNeg = dp) (hx3 : ¬ ik < 0 ∧ ik.toNatClampNeg = k) (h4 : sp + k ≤ n0) (h5 : dp + k ≤ n1) (hfit : ∀ i, i < k → fits ty (.int (f (sp + i))) = true) (hfr : 1 ≤ (pm_rm E).frames) (hlo : (st.map fun v => v.category).sum + (nativeFrameWords "java/lang/System" "arraycopy" 5 + 11) ≤ (pm_rm E).locals) (K : pm_V E q L st (pm_up h ad (.inl (ty, n1, .inl (va_cpy f g sp dp k)))) b F) : pm_V E pc L (.int ik :: .int idp :: .ref ad :: .int isp :: .ref a0 :: st) h b F := by
  intro G p l e s m args below meth c H locs ls cells slots Q X hR hl hL hc hs hE
  obtain ⟨d, rfl⟩ := hd
  obtain ⟨hi1, rfl⟩ := hx1
  obtain ⟨hi2, rfl⟩ := hx2
  obtain ⟨hi3, rfl⟩ := hx3
  have hta : ty ≠ .array .int := fun z => by subst z; simp [refKind] at hprim
  have hA0 := pm_arr (hR.2.2.2 a0 _ hh0) hta
  have hA1 := pm_arr (hR.2.2.2 ad _ hh1) hta
  have nn : ∀ z : Int32, ¬ z < 0 → z.toInt = (z.toNatClampNeg : Int) := by
    intro z hz
    have hz0 : (0 : Int) ≤ z.toInt := by
      have := Int32.not_lt.mp hz
      simpa using Int32.le_iff_toInt_le.mp this
    show z.toInt = ((z.toInt.toNat : Nat) : Int)
    omega
  intro T hT XX
  have hc0 : H[pm_ro G a0]? = some (vp_cell (G.2.1 ty) (n0, .inl f)) := hA0.2
  have hc1 : H[pm_ro G ad]? = some (vp_cell (G.2.1 ty) (n1, .inl g)) := hA1.2
  have harr := (X.2.2.2.2.2.1.2 t0 (G.2.1 ty, ty) (by rw [pm_tys, List.getElem?_map, ht]; rfl)).1
  obtain ⟨-, k0, hk0, cm0, hkk0⟩ := harr n0 (fun j => .int (f j))
  obtain ⟨-, k1, hk1, cm1, hkk1⟩ := harr n1 (fun j => .int (g j))
  obtain ⟨vm', X', step⟩ := XX.arraycopy X.1 X.2.2.2.1 (X.2.2.2.2.2.2.1 _ w1 args) (X.2.2.2.2.2.2.1 _ w2 args) (X.2.2.2.2.2.2.1 _ w3 args) (X.2.2.2.2.2.2.1 _ w4 args) (src := pm_ro G a0) (dst := pm_ro G ad) (cs := vp_cell (G.2.1 ty) (n0, .inl f)) (cd := vp_cell (G.2.1 ty) (n1, .inl g)) (srcPos := isp) (destPos := idp) (n := ik) (by rw [hT]; exact hc0) (by rw [hT]; exact hc1)
    (fun _ h => by cases h) (fun _ h => by cases h) (fun h => by cases h) (fun h => by cases h) hk0 hk1 hkk0 hkk1 (by simp [hprim]) hi1 hi2 hi3
    (by rw [nn isp hi1, nn ik hi3]; show ¬ _ > ((arrV (G.2.1 ty) n0 (fun j => .int (f j))).slots.size : Int); rw [arrV_size]; omega)
    (by rw [nn idp hi2, nn ik hi3]; show ¬ _ > ((arrV (G.2.1 ty) n1 (fun j => .int (g j))).slots.size : Int); rw [arrV_size]; omega)
    (fun vm₁ _ i hi => by
      have e : (vp_cell (G.2.1 ty) (n0, .inl f)).slots.getD (isp.toNatClampNeg + i) .null = .int (f (isp.toNatClampNeg + i)) := by
        show (arrV (G.2.1 ty) n0 (fun j => .int (f j))).slots.getD _ _ = _
        rw [Array.getD_eq_getD_getElem?, arrV_read _ _ (by omega)]
        rfl
      refine ⟨?_, ?_⟩
      · rw [e]
        exact hfit i hi
      · rw [e]
        exact trivial)
    (g := F0 m pc ls (.int ik :: .int idp :: .ref (pm_ro G ad) :: .int isp :: .ref (pm_ro G a0) :: st.map (pm_rv G))) rfl (by rw [X.2.2.1]; exact hL.1) (rest := st.map (pm_rv G)) rfl (by rw [X.2.1]; exact d) hfr (by show 2 * 0 + _ + _ ≤ _; rw [pm_rv_cats]; omega)
  have e1 : copied (vp_cell (G.2.1 ty) (n0, .inl f)) (vp_cell (G.2.1 ty) (n1, .inl g)) isp idp ik = vp_cell (G.2.1 ty) (n1, .inl (va_cpy f g isp.toNatClampNeg idp.toNatClampNeg ik.toNatClampNeg)) := va_copied (fun z => .int z) (G.2.1 ty) (G.2.1 ty) f g h4
  rw [e1] at X' step
  have hlz : pm_ro G ad < H.size := (Array.getElem?_eq_some_iff.mp hc1).1
  have hheap : ((T.setVm vm').setCell (pm_ro G ad) (vp_cell (G.2.1 ty) (n1, .inl (va_cpy f g isp.toNatClampNeg idp.toNatClampNeg ik.toNatClampNeg)))).heap = H.setIfInBounds (pm_ro G ad) (vp_cell (G.2.1 ty) (n1, .inl (va_cpy f g isp.toNatClampNeg idp.toNatClampNeg ik.toNatClampNeg))) := by rw [← hT]; rfl
  obtain ⟨t, a1, b1⟩ := K G p l e s m args below meth c _ _ ls cells slots Q X (hR.up (c := .inl (ty, n1, .inl (va_cpy f g isp.toNatClampNeg idp.toNatClampNeg ik.toNatClampNeg))) (Or.inr ⟨hA1.1, (show (H.setIfInBounds (pm_ro G ad) (vp_cell (G.2.1 ty) (n1, .inl (va_cpy f g isp.toNatClampNeg idp.toNatClampNeg ik.toNatClampNeg))))[pm_ro G ad]? = some _ by simp [Array.getElem?_setIfInBounds, hlz]; rfl), hta⟩) (by simp) (fun q hq => by simp [Array.getElem?_setIfInBounds, Ne.symm hq])) (fun q hq => by
      rcases List.mem_append.mp hq with z | z
      · exact hl q z
      · obtain ⟨z9, -, hz⟩ := List.mem_map.mp z
        rw [← hz]
        exact pm_ro_pos hA1.1) hL hc hs hE _ hheap X'
  exact ⟨t, step t a1, b1⟩
theorem r_copyl {a0 n0 n1 sp dp k t0 : Nat} {idx : Nat} {ty : FieldType} {f g : Nat → Int64} {isp idp ik : Int32} (hd : pm_D E pc 3 (.invokestatic idx) q) (w1 : Cond.methodLink E.1.cls idx arraycopyName ∈ pm_tbl) (w2 : Cond.native arraycopyName ∈ pm_tbl) (w3 : Cond.static arraycopyName ∈ pm_tbl) (w4 : Cond.initialized "java/lang/System" ∈ pm_tbl) (ht : pm_tl[t0]? = some ty) (hprim : refKind ty = false) (hh0 : h.2 a0 = some (.inl (ty, n0, .inr (.inl f)))) (hh1 : h.2 ad = some (.inl (ty, n1, .inr (.inl g)))) (hx1 : ¬ isp < 0 ∧ isp.toNatClampNeg = sp) (hx2 : ¬ idp < 0 ∧ idp.toNatClampNeg = dp) (hx3 : ¬ ik < 0 ∧ ik.toNatClampNeg = k) (h4 : sp + k ≤ n0) (h5 : dp + k ≤ n1) (hfit : ∀ i, i < k → fits ty (.long (f (sp + i))) = true) (hfr : 1 ≤ (pm_rm E).frames) (hlo : (st.map fun v => v.category).sum + (nativeFrameWords "java/lang/System" "arraycopy" 5 + 11) ≤ (pm_rm E).locals) (K : pm_V E q L st (pm_up h ad (.inl (ty, n1, .inr (.inl (va_cpy f g sp dp k))))) b F) : pm_V E pc L (.int ik :: .int idp :: .ref ad :: .int isp :: .ref a0 :: st) h b F := by
  intro G p l e s m args below meth c H locs ls cells slots Q X hR hl hL hc hs hE
  obtain ⟨d, rfl⟩ := hd
  obtain ⟨hi1, rfl⟩ := hx1
  obtain ⟨hi2, rfl⟩ := hx2
  obtain ⟨hi3, rfl⟩ := hx3
  have hta : ty ≠ .array .int := fun z => by subst z; simp [refKind] at hprim
  have hA0 := pm_arr (hR.2.2.2 a0 _ hh0) hta
  have hA1 := pm_arr (hR.2.2.2 ad _ hh1) hta
  have nn : ∀ z : Int32, ¬ z < 0 → z.toInt = (z.toNatClampNeg : Int) := by
    intro z hz
    have hz0 : (0 : Int) ≤ z.toInt := by
      have := Int32.not_lt.mp hz
      simpa using Int32.le_iff_toInt_le.mp this
    show z.toInt = ((z.toInt.toNat : Nat) : Int)
    omega
  intro T hT XX
  have hc0 : H[pm_ro G a0]? = some (vp_cell (G.2.1 ty) (n0, .inr (.inl f))) := hA0.2
  have hc1 : H[pm_ro G ad]? = some (vp_cell (G.2.1 ty) (n1, .inr (.inl g))) := hA1.2
  have harr := (X.2.2.2.2.2.1.2 t0 (G.2.1 ty, ty) (by rw [pm_tys, List.getElem?_map, ht]; rfl)).1
  obtain ⟨-, k0, hk0, cm0, hkk0⟩ := harr n0 (fun j => .long (f j))
  obtain ⟨-, k1, hk1, cm1, hkk1⟩ := harr n1 (fun j => .long (g j))
  obtain ⟨vm', X', step⟩ := XX.arraycopy X.1 X.2.2.2.1 (X.2.2.2.2.2.2.1 _ w1 args) (X.2.2.2.2.2.2.1 _ w2 args) (X.2.2.2.2.2.2.1 _ w3 args) (X.2.2.2.2.2.2.1 _ w4 args) (src := pm_ro G a0) (dst := pm_ro G ad) (cs := vp_cell (G.2.1 ty) (n0, .inr (.inl f))) (cd := vp_cell (G.2.1 ty) (n1, .inr (.inl g))) (srcPos := isp) (destPos := idp) (n := ik) (by rw [hT]; exact hc0) (by rw [hT]; exact hc1)
    (fun _ h => by cases h) (fun _ h => by cases h) (fun h => by cases h) (fun h => by cases h) hk0 hk1 hkk0 hkk1 (by simp [hprim]) hi1 hi2 hi3
    (by rw [nn isp hi1, nn ik hi3]; show ¬ _ > ((arrV (G.2.1 ty) n0 (fun j => .long (f j))).slots.size : Int); rw [arrV_size]; omega)
    (by rw [nn idp hi2, nn ik hi3]; show ¬ _ > ((arrV (G.2.1 ty) n1 (fun j => .long (g j))).slots.size : Int); rw [arrV_size]; omega)
    (fun vm₁ _ i hi => by
      have e : (vp_cell (G.2.1 ty) (n0, .inr (.inl f))).slots.getD (isp.toNatClampNeg + i) .null = .long (f (isp.toNatClampNeg + i)) := by
        show (arrV (G.2.1 ty) n0 (fun j => .long (f j))).slots.getD _ _ = _
        rw [Array.getD_eq_getD_getElem?, arrV_read _ _ (by omega)]
        rfl
      refine ⟨?_, ?_⟩
      · rw [e]
        exact hfit i hi
      · rw [e]
        exact trivial)
    (g := F0 m pc ls (.int ik :: .int idp :: .ref (pm_ro G ad) :: .int isp :: .ref (pm_ro G a0) :: st.map (pm_rv G))) rfl (by rw [X.2.2.1]; exact hL.1) (rest := st.map (pm_rv G)) rfl (by rw [X.2.1]; exact d) hfr (by show 2 * 0 + _ + _ ≤ _; rw [pm_rv_cats]; omega)
  have e1 : copied (vp_cell (G.2.1 ty) (n0, .inr (.inl f))) (vp_cell (G.2.1 ty) (n1, .inr (.inl g))) isp idp ik = vp_cell (G.2.1 ty) (n1, .inr (.inl (va_cpy f g isp.toNatClampNeg idp.toNatClampNeg ik.toNatClampNeg))) := va_copied (fun z => .long z) (G.2.1 ty) (G.2.1 ty) f g h4
  rw [e1] at X' step
  have hlz : pm_ro G ad < H.size := (Array.getElem?_eq_some_iff.mp hc1).1
  have hheap : ((T.setVm vm').setCell (pm_ro G ad) (vp_cell (G.2.1 ty) (n1, .inr (.inl (va_cpy f g isp.toNatClampNeg idp.toNatClampNeg ik.toNatClampNeg))))).heap = H.setIfInBounds (pm_ro G ad) (vp_cell (G.2.1 ty) (n1, .inr (.inl (va_cpy f g isp.toNatClampNeg idp.toNatClampNeg ik.toNatClampNeg)))) := by rw [← hT]; rfl
  obtain ⟨t, a1, b1⟩ := K G p l e s m args below meth c _ _ ls cells slots Q X (hR.up (c := .inl (ty, n1, .inr (.inl (va_cpy f g isp.toNatClampNeg idp.toNatClampNeg ik.toNatClampNeg)))) (Or.inr ⟨hA1.1, (show (H.setIfInBounds (pm_ro G ad) (vp_cell (G.2.1 ty) (n1, .inr (.inl (va_cpy f g isp.toNatClampNeg idp.toNatClampNeg ik.toNatClampNeg)))))[pm_ro G ad]? = some _ by simp [Array.getElem?_setIfInBounds, hlz]; rfl), hta⟩) (by simp) (fun q hq => by simp [Array.getElem?_setIfInBounds, Ne.symm hq])) (fun q hq => by
      rcases List.mem_append.mp hq with z | z
      · exact hl q z
      · obtain ⟨z9, -, hz⟩ := List.mem_map.mp z
        rw [← hz]
        exact pm_ro_pos hA1.1) hL hc hs hE _ hheap X'
  exact ⟨t, step t a1, b1⟩
end PH
