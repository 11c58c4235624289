/-! THE PURE MACHINE. Addresses: 0 is the script, k + 1 the cell that came k-th since the law began. A cell: an array (its type, length, contents) or an object (its class's number in vwCl, its fields). -/
abbrev pm_C : Type := (FieldType × vp_A) ⊕ (Nat × List Value)
abbrev pm_H : Type := Nat × (Nat → Option pm_C)
abbrev pm_G : Type := va_G × (FieldType → ClassId) × Cell × Nat × Nat
abbrev pm_E : Type := MethodName × ByteArray × Nat × Option FieldType × Room
abbrev pm_cc (E : pm_E) : ByteArray := E.2.1
abbrev pm_nL (E : pm_E) : Nat := E.2.2.1
abbrev pm_rt (E : pm_E) : Option FieldType := E.2.2.2.1
abbrev pm_rm (E : pm_E) : Room := E.2.2.2.2
def pm_ro (G : pm_G) (a : Nat) : Nat := match a with
  | 0 => G.2.2.2.1
  | k + 1 => G.2.2.2.2 + k
def pm_rv (G : pm_G) (v : Value) : Value := match v with
  | .ref a => .ref (pm_ro G a)
  | .int x => .int x
  | .long x => .long x
  | .float x => .float x
  | .double x => .double x
  | .null => .null
  | .retAddr x => .retAddr x
def pm_ra (G : pm_G) (x : vp_A) : vp_A := match x with
  | (n, .inr (.inr (.inr (.inr f)))) => (n, .inr (.inr (.inr (.inr (fun j => (f j).map (pm_ro G))))))
  | (n, .inl f) => (n, .inl f)
  | (n, .inr (.inl f)) => (n, .inr (.inl f))
  | (n, .inr (.inr (.inl f))) => (n, .inr (.inr (.inl f)))
  | (n, .inr (.inr (.inr (.inl f)))) => (n, .inr (.inr (.inr (.inl f))))
theorem pm_rv_cat (G : pm_G) (v : Value) : (pm_rv G v).category = v.category := by cases v <;> rfl
theorem pm_rv_cats (G : pm_G) (st : List Value) : ((st.map (pm_rv G)).map fun v => v.category).sum = (st.map fun v => v.category).sum := by
  induction st with
  | nil => rfl
  | cons v t ih => simp only [List.map_cons, List.sum_cons, pm_rv_cat, ih]
theorem pm_rv_rf (G : pm_G) (o : Option Nat) : pm_rv G (va_rf o) = va_rf (o.map (pm_ro G)) := by cases o <;> rfl
def pm_at (G : pm_G) (a : Nat) (c : pm_C) (H : Heap) : Prop := match c with
  | .inl x => (x.1 = .array .int ∧ a = 0 ∧ H[pm_ro G a]? = some G.2.2.1 ∧ G.2.2.1.vm ≠ .unknown ∧ ∃ f : Nat → Int32, x.2.2 = .inl f ∧ G.2.2.1.slots.size = x.2.1 ∧ ∀ j, j < x.2.1 → G.2.2.1.slots[j]? = some (.int (f j))) ∨ (0 < a ∧ H[pm_ro G a]? = some (vp_cell (G.2.1 x.1) (pm_ra G x.2)) ∧ x.1 ≠ .array .int)
  | .inr o => 0 < a ∧ va_at G.1 vwCl (pm_ro G a, .inr (o.1, o.2.map (pm_rv G))) H
def pm_R (G : pm_G) (h : pm_H) (H : Heap) : Prop := G.2.2.2.1 < G.2.2.2.2 ∧ 0 < h.1 ∧ H.size = pm_ro G h.1 ∧ ∀ a c, h.2 a = some c → pm_at G a c H
def pm_up (h : pm_H) (a : Nat) (c : pm_C) : pm_H := (h.1, fun q => if q = a then some c else h.2 q)
def pm_nw (h : pm_H) (c : pm_C) : pm_H := (h.1 + 1, fun q => if q = h.1 then some c else h.2 q)
theorem pm_same {h : pm_H} {a : Nat} {c : pm_C} : (pm_up h a c).2 a = some c := by simp [pm_up]
theorem pm_ne {h : pm_H} {a q : Nat} {c : pm_C} {x : Option pm_C} (n : q ≠ a) (e : h.2 q = x) : (pm_up h a c).2 q = x := by simp [pm_up, n, e]
theorem pm_up_up {h : pm_H} {a : Nat} {c d : pm_C} : pm_up (pm_up h a c) a d = pm_up h a d := by
  simp only [pm_up, Prod.mk.injEq, true_and]
  funext q
  by_cases e : q = a <;> simp [e]
theorem pm_up_self {h : pm_H} {a : Nat} {c : pm_C} (e : h.2 a = some c) : pm_up h a c = h := by
  refine Prod.ext rfl ?_
  funext q
  show (if q = a then some c else h.2 q) = h.2 q
  by_cases g : q = a
  · rw [if_pos g, g, e]
  · rw [if_neg g]
theorem pm_up_comm {h : pm_H} {a b : Nat} {c d : pm_C} (n : a ≠ b) : pm_up (pm_up h a c) b d = pm_up (pm_up h b d) a c := by
  simp only [pm_up, Prod.mk.injEq, true_and]
  funext q
  by_cases e : q = b
  · by_cases e2 : q = a
    · exact absurd (e2.symm.trans e) n
    · simp [e, Ne.symm n]
  · simp [e]
theorem pm_ro_inj {G : pm_G} (hb : G.2.2.2.1 < G.2.2.2.2) {a c : Nat} (h : pm_ro G a = pm_ro G c) : a = c := by
  cases a <;> cases c <;> simp only [pm_ro] at h <;> omega
theorem pm_ro_pos {G : pm_G} {a : Nat} (h : 0 < a) : G.2.2.2.2 ≤ pm_ro G a := by
  cases a with
  | zero => omega
  | succ k => simp [pm_ro]
theorem pm_at.kept {G : pm_G} {a : Nat} {c : pm_C} {H H' : Heap} (h : pm_at G a c H) (e : H'[pm_ro G a]? = H[pm_ro G a]?) : pm_at G a c H' := by
  cases c with
  | inl x =>
    rcases h with ⟨h1, h2, h3, h4⟩ | ⟨h1, h2, h3⟩
    · exact Or.inl ⟨h1, h2, by rw [e]; exact h3, h4⟩
    · exact Or.inr ⟨h1, by rw [e]; exact h2, h3⟩
  | inr o =>
    obtain ⟨h1, r, h2, h3⟩ := h
    exact ⟨h1, r, h2, h3.kept e⟩
theorem pm_at.lt {G : pm_G} {a : Nat} {c : pm_C} {H : Heap} (h : pm_at G a c H) : pm_ro G a < H.size := by
  cases c with
  | inl x =>
    rcases h with ⟨h1, h2, h3, h4⟩ | ⟨h1, h2, h3⟩
    · exact (Array.getElem?_eq_some_iff.mp h3).1
    · exact (Array.getElem?_eq_some_iff.mp h2).1
  | inr o =>
    obtain ⟨h1, r, h2, cell, h3, -⟩ := h
    exact (Array.getElem?_eq_some_iff.mp h3).1
theorem pm_R.up {G : pm_G} {h : pm_H} {H H' : Heap} {a : Nat} {c : pm_C} (hR : pm_R G h H) (ha : pm_at G a c H') (hz : H'.size = H.size) (ho : ∀ q, q ≠ pm_ro G a → H'[q]? = H[q]?) : pm_R G (pm_up h a c) H' := by
  obtain ⟨h1, h2, h3, h4⟩ := hR
  refine ⟨h1, h2, by rw [hz]; exact h3, fun q d hq => ?_⟩
  by_cases e : q = a
  · subst e
    rw [pm_same] at hq
    cases hq
    exact ha
  · have hq' : h.2 q = some d := by simpa [pm_up, e] using hq
    exact (h4 q d hq').kept (ho _ (fun e2 => e (pm_ro_inj h1 e2)))
theorem pm_R.nw {G : pm_G} {h : pm_H} {H H' : Heap} {c : pm_C} (hR : pm_R G h H) (ha : pm_at G h.1 c H') (hz : H'.size = H.size + 1) (ho : ∀ q, q < H.size → H'[q]? = H[q]?) : pm_R G (pm_nw h c) H' := by
  obtain ⟨h1, h2, h3, h4⟩ := hR
  refine ⟨h1, Nat.succ_pos _, ?_, fun q d hq => ?_⟩
  · rw [hz, h3]
    show pm_ro G h.1 + 1 = pm_ro G (h.1 + 1)
    cases e : h.1 with
    | zero => omega
    | succ k => simp only [pm_ro]; omega
  · by_cases e : q = h.1
    · subst e
      have : (pm_nw h c).2 h.1 = some c := by simp [pm_nw]
      rw [this] at hq
      cases hq
      exact ha
    · have hq' : h.2 q = some d := by simpa [pm_nw, e] using hq
      have := h4 q d hq'
      exact this.kept (ho _ this.lt)
def pm_tl : List FieldType := [.int, .long, .byte, .boolean, .object RX1, .object RX3, .object RX0]
def pm_tys (G : pm_G) : List (ClassId × FieldType) := pm_tl.map (fun t => (G.2.1 t, t))
def pm_no : List (String × String) := [(RX1, RX6), (RX2, RX6), (RX1, RX2), (RX6, RX2), (RX7, RX2), (RX1, RX7), (RX2, RX7), (RX6, RX7)]
def pm_kind (w : Cond) : Bool := match w with
  | .fieldLinkNest _ _ _ _ _ _ => true
  | .methodLinkNest _ _ _ _ => true
  | .declares _ => true
  | .castable _ _ => true
  | .arrayOver (.object _) => true
  | w => goodWord w
/-- private methods of Stalks on an object of Thumb: what is selected is the method itself -/
def pm_ex : List Cond := [.selects RX7 yX6_rest yX6_rest, .selects RX7 yX6_partHeaps yX6_partHeaps, .selects RX7 yX6_sharesOf yX6_sharesOf, .selects RX7 yX6_partHeap yX6_partHeap]
def pm_tbl : List Cond := (lw_tbl ++ pm_ex).filter pm_kind
theorem pm_m {w : Cond} (h : w ∈ lw_tbl) (hk : pm_kind w = true) : w ∈ pm_tbl := List.mem_filter.mpr ⟨List.mem_append_left _ h, hk⟩
theorem pm_mx {w : Cond} (h : w ∈ pm_ex) (hk : pm_kind w = true) : w ∈ pm_tbl := List.mem_filter.mpr ⟨List.mem_append_right _ h, hk⟩
theorem pm_selC {C : String} {y : MethodName} {s : State} {args : Array Value} {n : Nat} (hy : y.cls ≠ "java/lang/invoke/MethodHandle" ∧ y.cls ≠ "java/lang/invoke/VarHandle")
    (hins : (Cond.instantiable C n).before args s = true) (hins2 : ∃ n2, (Cond.instantiable y.cls n2).before args s = true) (hpriv : (Cond.privateMethod y).before args s = true) (hinst : (Cond.instanceMethod y).before args s = true) :
    (Cond.selects C y y).before args s = true := by
  obtain ⟨n2, hins2⟩ := hins2
  obtain ⟨c0, k0, hc0, hk0, -, hniab0, -, -⟩ := Cond.instantiable_spec hins
  obtain ⟨c, k, hc, hk, -, hniab, -, -⟩ := Cond.instantiable_spec hins2
  have hni : k.isInterface = false := (Bool.or_eq_false_iff.mp hniab).1
  obtain ⟨mk, methM, hnamed, hmethM, -, -⟩ := Cond.instanceMethod_spec hinst
  have hfound : s.methodFound? y.cls y.name y.desc = some mk := State.methodFound?_of_named hnamed hy
  have hcls : mk.cls = c := Option.some.inj ((findClass_of_methodNamed hnamed).symm.trans hc)
  have hsel : selectMethod {} s.vm c0 mk = .method mk := selectMethod_private hmethM (Cond.privateMethod_at hpriv mk methM hnamed hmethM)
  simp only [Cond.before, Cond.holds, Cond.value, hc0, hfound, hnamed, hsel, hcls, hk]
  simp; exact hni
def pm_K (G : pm_G) (U : State) : Prop := va_K G.1 vwCl (pm_tys G) U ∧ (∀ w ∈ pm_tbl, ∀ a : Array Value, w.before a U = true) ∧ (∀ q ∈ pm_no, va_Nc q.1 q.2 U) ∧ U.isArrayOf G.2.2.1 .int
theorem pm_word {w : Cond} (hk : pm_kind w = true) {s U : State} (hW : s.WarmedH U.vm) (h : ∀ a : Array Value, w.before a s = true) : ∀ a : Array Value, w.before a U = true := by
  intro a
  unfold pm_kind at hk
  split at hk
  · exact va_Nw.use rfl (va_Nw.warmF hW (h #[]))
  · exact va_Nw.use rfl (va_Nw.warmM hW (h #[]))
  · exact va_Nw.use rfl (va_Nw.warmD hW (h #[]))
  · exact va_Nw.use rfl (va_Nw.warmC hW (h #[]))
  · exact va_AO.use (va_AO.moved hW.alike (h #[]))
  · exact word_at hW (good_of_word hk) (h #[])
theorem pm_K.warm {G : pm_G} {s U : State} (h : pm_K G s) (hW : s.WarmedH U.vm) : pm_K G U :=
  ⟨h.1.moved hW.alike, fun w hw => pm_word (List.mem_filter.mp hw).2 hW (h.2.1 w hw), fun q hq => (h.2.2.1 q hq).moved hW.alike, State.isArrayOf_alike hW.alike h.2.2.2⟩
def pm_al (L : List (Option Value)) : List (Nat × Value) := (List.range L.length).filterMap (fun i => (L[i]?.join).map (fun v => (i, v)))
theorem pm_al_mem {L : List (Option Value)} {q : Nat × Value} : q ∈ pm_al L ↔ L[q.1]? = some (some q.2) := by
  unfold pm_al
  rw [List.mem_filterMap]
  constructor
  · rintro ⟨i, hi, h⟩
    cases e : L[i]? with
    | none => simp [e] at h
    | some x =>
      cases x with
      | none => simp [e] at h
      | some v =>
        simp [e] at h
        rw [← h]
        exact e
  · intro h
    refine ⟨q.1, List.mem_range.mpr (List.getElem?_eq_some_iff.mp h).1, ?_⟩
    simp [h]
def pm_L (G : pm_G) (L : List (Option Value)) (ls : Array Slot) (n : Nat) : Prop := lv_has ls n ((pm_al L).map (fun q => (q.1, pm_rv G q.2)))
theorem pm_L.at {G : pm_G} {L : List (Option Value)} {ls : Array Slot} {n : Nat} (h : pm_L G L ls n) {i : Nat} {v : Value} (e : L[i]? = some (some v)) : ls[i]? = some (.val (pm_rv G v)) :=
  h.2.2 (i, pm_rv G v) (List.mem_map.mpr ⟨(i, v), pm_al_mem.mpr e, rfl⟩)
theorem pm_L.sub {G : pm_G} {L L' : List (Option Value)} {ls : Array Slot} {n : Nat} (h : pm_L G L ls n) (hs : ∀ (i : Nat) (v : Value), L'[i]? = some (some v) → L[i]? = some (some v)) : pm_L G L' ls n := by
  refine ⟨h.1, h.2.1, fun q hq => ?_⟩
  obtain ⟨x, hx, rfl⟩ := List.mem_map.mp hq
  exact h.at (hs _ _ (pm_al_mem.mp hx))
/-- behind a store of one word -/
theorem pm_L.st1 {G : pm_G} {L : List (Option Value)} {ls' : Array Slot} {n i : Nat} {v : Value} (h : lv_has ls' n ((i, pm_rv G v) :: ((pm_al L).map (fun q => (q.1, pm_rv G q.2))).filter (fun q => !(q.1 == i) && !(q.1 + 1 == i && q.2.category == 2)))) (hn : ∀ w, L[i - 1]? = some (some w) → w.category = 1) : pm_L G (L.set i (some v)) ls' n := by
  refine ⟨h.1, h.2.1, fun q hq => ?_⟩
  obtain ⟨x, hx, rfl⟩ := List.mem_map.mp hq
  have hx' := pm_al_mem.mp hx
  rw [List.getElem?_set] at hx'
  split at hx'
  · next e =>
    split at hx'
    · next hlt =>
      cases hx'
      have e1 : x = (i, x.2) := by rw [e]
      rw [← e]
      exact h.2.2 _ List.mem_cons_self
    · cases hx'
  · next e =>
    refine h.2.2 _ (List.mem_cons_of_mem _ (List.mem_filter.mpr ⟨List.mem_map.mpr ⟨x, pm_al_mem.mpr hx', rfl⟩, ?_⟩))
    have e1 : (x.1 == i) = false := by simpa using fun q => e q.symm
    simp only [e1, Bool.not_false, Bool.true_and, Bool.not_eq_true', Bool.and_eq_false_iff]
    by_cases e2 : x.1 + 1 = i
    · right
      have e3 : i - 1 = x.1 := by omega
      have := hn x.2 (by rw [e3]; exact hx')
      simp [pm_rv_cat, this]
    · left
      simpa using e2
theorem pm_L.st2 {G : pm_G} {L : List (Option Value)} {ls' : Array Slot} {n i : Nat} {v : Value} (h : lv_has ls' n ((i, pm_rv G v) :: ((pm_al L).map (fun q => (q.1, pm_rv G q.2))).filter (fun q => !(q.1 == i) && (!(q.1 == i + 1) && !(q.1 + 1 == i && q.2.category == 2))))) (hn : ∀ w, L[i - 1]? = some (some w) → w.category = 1) : pm_L G ((L.set i (some v)).set (i + 1) none) ls' n := by
  refine ⟨h.1, h.2.1, fun q hq => ?_⟩
  obtain ⟨x, hx, rfl⟩ := List.mem_map.mp hq
  have hx' := pm_al_mem.mp hx
  rw [List.getElem?_set] at hx'
  split at hx'
  · split at hx'
    · cases hx'
    · cases hx'
  next e0 =>
  rw [List.getElem?_set] at hx'
  split at hx'
  · next e =>
    split at hx'
    · next hlt =>
      cases hx'
      rw [← e]
      exact h.2.2 _ List.mem_cons_self
    · cases hx'
  · next e =>
    refine h.2.2 _ (List.mem_cons_of_mem _ (List.mem_filter.mpr ⟨List.mem_map.mpr ⟨x, pm_al_mem.mpr hx', rfl⟩, ?_⟩))
    have e1 : (x.1 == i) = false := by simpa using fun q => e q.symm
    have e4 : (x.1 == i + 1) = false := by simpa using fun q => e0 q.symm
    simp only [e1, e4, Bool.not_false, Bool.true_and, Bool.not_eq_true', Bool.and_eq_false_iff]
    by_cases e2 : x.1 + 1 = i
    · right
      have e3 : i - 1 = x.1 := by omega
      have := hn x.2 (by rw [e3]; exact hx')
      simp [pm_rv_cat, this]
    · left
      simpa using e2
/-- which instruction ends a method with v, and whether its type lets v through as it is -/
def pm_ri (v : Option Value) : Instr := match v with
  | none => .return_
  | some (.int _) => .ireturn
  | some (.long _) => .lreturn
  | some _ => .areturn
def pm_rok (rt : Option FieldType) (v : Option Value) : Prop := match v with
  | none => rt = none
  | some (.int x) => ∃ ty, rt = some ty ∧ narrow ty (.int x) = .int x
  | some (.long _) => rt = some .long
  | some (.ref _) => ∃ n, rt = some (.object n)
  | some .null => ∃ n, rt = some (.object n)
  | _ => False
def pm_X (E : pm_E) (G : pm_G) (p : Program) (s : State) (m : MethodId) (meth : Method) (c : Code) : Prop :=
  p.tables.exec = Jvm.exec ∧ c.code = pm_cc E ∧ c.maxLocals = pm_nL E ∧ s.vm.findClass E.1.cls = some m.cls ∧ meth.name = E.1.name ∧ pm_K G s
def pm_End (E : pm_E) (G : pm_G) (p : Program) (l : Launch) (e : Env) (s : State) (m : MethodId) (args : Array Value) (below : List Frame) (meth : Method) (c : Code) (Q : State → Prop) (F : Option Value → pm_H → Prop) : Prop :=
  ∀ (v : Option Value) (h1 : pm_H), F v h1 → pm_rok (pm_rt E) v → ∀ (H1 : Heap) (locs1 : List Loc) (cells1 slots1 pc1 : Nat) (ls1 : Array Slot), pm_R G h1 H1 → (∀ q ∈ locs1, G.2.2.2.2 ≤ q.base) → cells1 ≤ (pm_rm E).cells → slots1 ≤ (pm_rm E).slots →
    decode (pm_cc E) pc1 = .ok (pm_ri v, 1) → W p l e (pm_rm E) s m args below meth c H1 locs1 cells1 slots1 Q (F0 m pc1 ls1 (v.toList.map (pm_rv G)))
/-- from pc, with these locals, this stack and this heap, with b cells and slots left, the method comes to an end with F -/
def pm_V (E : pm_E) (pc : Nat) (L : List (Option Value)) (st : List Value) (h : pm_H) (b : Nat × Nat) (F : Option Value → pm_H → Prop) : Prop :=
  ∀ (G : pm_G) (p : Program) (l : Launch) (e : Env) (s : State) (m : MethodId) (args : Array Value) (below : List Frame) (meth : Method) (c : Code) (H : Heap) (locs : List Loc) (ls : Array Slot) (cells slots : Nat) (Q : State → Prop),
    pm_X E G p s m meth c → pm_R G h H → (∀ q ∈ locs, G.2.2.2.2 ≤ q.base) → pm_L G L ls (pm_nL E) → cells + b.1 ≤ (pm_rm E).cells → slots + b.2 ≤ (pm_rm E).slots → pm_End E G p l e s m args below meth c Q F →
    W p l e (pm_rm E) s m args below meth c H locs cells slots Q (F0 m pc ls (st.map (pm_rv G)))
/-- the contract of a method -/
def pm_Cl (E : pm_E) (av : List Value) (h : pm_H) (F : Option Value → pm_H → Prop) : Prop :=
  ∀ (l : Launch) (G : pm_G), Met l E.1 [Cond.code E.1 (pm_cc E) (pm_nL E) (pm_rt E)] (pm_rm E) (va_Pc (av.map (pm_rv G)) (fun U => pm_K G U ∧ pm_R G h U.heap))
    (fun _ _ o t => ∃ (v : Option Value) (h1 : pm_H), o = .returned (v.map (pm_rv G)) ∧ F v h1 ∧ pm_R G h1 t.heap) (pm_rm E).cells (pm_rm E).slots (fun q => G.2.2.2.2 ≤ q)
theorem pm_V.weak {E : pm_E} {pc : Nat} {L L' : List (Option Value)} {st : List Value} {h : pm_H} {b : Nat × Nat} {F : Option Value → pm_H → Prop} (k : pm_V E pc L' st h b F) (hs : ∀ (i : Nat) (v : Value), L'[i]? = some (some v) → L[i]? = some (some v)) : pm_V E pc L st h b F :=
  fun G p l e s m args below meth c H locs ls cells slots Q X hR hl hL hc hsl hE => k G p l e s m args below meth c H locs ls cells slots Q X hR hl (hL.sub hs) hc hsl hE
theorem pm_V.mono {E : pm_E} {pc : Nat} {L : List (Option Value)} {st : List Value} {h : pm_H} {b : Nat × Nat} {F F' : Option Value → pm_H → Prop} (k : pm_V E pc L st h b F) (hs : ∀ v h1, F v h1 → F' v h1) : pm_V E pc L st h b F' :=
  fun G p l e s m args below meth c H locs ls cells slots Q X hR hl hL hc hsl hE => k G p l e s m args below meth c H locs ls cells slots Q X hR hl hL hc hsl (fun v h1 hf => hE v h1 (hs v h1 hf))
theorem pm_V.bud {E : pm_E} {pc : Nat} {L : List (Option Value)} {st : List Value} {h : pm_H} {b b' : Nat × Nat} {F : Option Value → pm_H → Prop} (k : pm_V E pc L st h b' F) (h1 : b'.1 ≤ b.1) (h2 : b'.2 ≤ b.2) : pm_V E pc L st h b F :=
  fun G p l e s m args below meth c H locs ls cells slots Q X hR hl hL hc hsl hE => k G p l e s m args below meth c H locs ls cells slots Q X hR hl hL (by omega) (by omega) hE
/-- the locals with which a method begins -/
def pm_lo : List Value → List (Option Value)
  | [] => []
  | v :: vs => if v.category = 2 then some v :: none :: pm_lo vs else some v :: pm_lo vs
theorem pm_lo_args (G : pm_G) : ∀ (vs : List Value) (k i : Nat) (v : Value), (pm_lo vs)[i]? = some (some v) → (k + i, pm_rv G v) ∈ lv_args k (vs.map (pm_rv G))
  | [], k, i, v, h => by simp [pm_lo] at h
  | x :: vs, k, i, v, h => by
    unfold pm_lo at h
    simp only [List.map_cons, lv_args, pm_rv_cat]
    split at h
    · next hc =>
      match i, h with
      | 0, h => simp at h; subst h; exact List.mem_cons_self
      | 1, h => simp at h
      | i + 2, h =>
        have h' : (pm_lo vs)[i]? = some (some v) := by simpa using h
        have := pm_lo_args G vs (k + 2) i v h'
        rw [if_pos hc]
        refine List.mem_cons_of_mem _ ?_
        rw [show k + (i + 2) = k + 2 + i by omega]
        exact this
    · next hc =>
      match i, h with
      | 0, h => simp at h; subst h; exact List.mem_cons_self
      | i + 1, h =>
        have h' : (pm_lo vs)[i]? = some (some v) := by simpa using h
        have := pm_lo_args G vs (k + 1) i v h'
        rw [if_neg hc]
        refine List.mem_cons_of_mem _ ?_
        rw [show k + (i + 1) = k + 1 + i by omega]
        exact this
theorem pm_lo_len (G : pm_G) : ∀ vs : List Value, (lg_sl (vs.map (pm_rv G))).length = (pm_lo vs).length
  | [] => rfl
  | v :: vs => by
    have ih := pm_lo_len G vs
    simp only [lg_sl, List.map_cons, List.flatMap_cons, List.length_append, pm_lo, pm_rv_cat] at ih ⊢
    split <;> simp [ih] <;> omega
/-- a contract out of a run of the body -/
theorem pm_enter {E : pm_E} {av : List Value} {h : pm_H} {F : Option Value → pm_H → Prop} (hp : plainName E.1.cls = true) (hn : (pm_lo av).length ≤ pm_nL E)
    (k : pm_V E 0 (pm_lo av ++ List.replicate (pm_nL E - (pm_lo av).length) none) [] h ((pm_rm E).cells, (pm_rm E).slots) F) : pm_Cl E av h F := by
  intro l G
  refine Met.ofW (cc := pm_cc E) (maxL := pm_nL E) (ret := pm_rt E) hp rfl ?_
  intro p e s m args below meth c s₁ B hml hv
  obtain ⟨rfl, hK, hR⟩ := hv
  have hx := B.exec
  have hb := B.bytes
  have hr := B.returns
  have hown : s.vm.findClass E.1.cls = some m.cls := findClass_of_methodNamed B.named
  have hlocks := B.notSynchronized
  have hin : meth.name = E.1.name := (name_of_methodNamed B.named B.method).1
  have hlen : (lg_sl (av.map (pm_rv G))).length ≤ pm_nL E := by rw [pm_lo_len]; exact hn
  have hl := lv_entry (av.map (pm_rv G)) (n := pm_nL E) hlen
  rw [lg_entry_eq]
  generalize (lg_sl (av.map (pm_rv G)) ++ List.replicate (pm_nL E - (lg_sl (av.map (pm_rv G))).length) Slot.unset).toArray = ls at hl ⊢
  refine k G p l e s m (av.map (pm_rv G)).toArray below meth c s.heap [] ls 0 0 _ ⟨hx, hb, hml, hown, hin, hK⟩ hR (fun q hq => by cases hq) ?_ (by simp) (by simp) ?_
  · refine ⟨hl.1, hl.2.1, fun q hq => ?_⟩
    obtain ⟨x, hx, rfl⟩ := List.mem_map.mp hq
    have hx' := pm_al_mem.mp hx
    by_cases hlt : x.1 < (pm_lo av).length
    · rw [List.getElem?_append_left hlt] at hx'
      have := pm_lo_args G av 0 x.1 x.2 hx'
      rw [Nat.zero_add] at this
      exact hl.2.2 _ this
    · rw [List.getElem?_append_right (by omega)] at hx'
      have := List.eq_of_mem_replicate (List.mem_of_getElem? hx')
      cases this
  · intro v h1 hF hok H1 locs1 cells1 slots1 pc1 ls1 hR1 hl1 hc1 hs1 hd
    refine W.widen (k := (pm_rm E).cells) (n := (pm_rm E).slots) hc1 hs1 ?_
    cases v with
    | none => exact W.vret hx hb (by rw [hr]; exact hok) (fun t ht hW => ⟨none, h1, rfl, hF, by rw [ht]; exact hR1⟩) hl1 hd
    | some v =>
      cases v with
      | int x =>
        obtain ⟨ty, e1, e2⟩ := hok
        exact W.zret (ty := ty) hx hb (by rw [hr]; exact e1) e2 (fun t ht hW => ⟨some (.int x), h1, rfl, hF, by rw [ht]; exact hR1⟩) hl1 hd
      | long x => exact W.lret hx hb (by rw [hr]; exact hok) (fun t ht hW => ⟨some (.long x), h1, rfl, hF, by rw [ht]; exact hR1⟩) hl1 hd
      | ref a =>
        obtain ⟨n, e1⟩ := hok
        exact W.aret (rt := .object n) hx hb (by rw [hr]; exact e1) (Or.inl ⟨n, rfl⟩) (Or.inr ⟨_, rfl⟩) (fun t ht hW => ⟨some (.ref a), h1, rfl, hF, by rw [ht]; exact hR1⟩) hl1 hd
      | null =>
        obtain ⟨n, e1⟩ := hok
        exact W.aret (rt := .object n) hx hb (by rw [hr]; exact e1) (Or.inl ⟨n, rfl⟩) (Or.inl rfl) (fun t ht hW => ⟨some .null, h1, rfl, hF, by rw [ht]; exact hR1⟩) hl1 hd
      | float x => exact hok.elim
      | double x => exact hok.elim
      | retAddr x => exact hok.elim
def pm_D (E : pm_E) (pc n : Nat) (i : Instr) (q : Nat) : Prop := decode (pm_cc E) pc = .ok (i, n) ∧ pc + n = q
def pm_B (E : pm_E) (pc : Nat) (i : Int → Instr) (t q : Nat) : Prop := ∃ off : Int, decode (pm_cc E) pc = .ok (i off, 3) ∧ (pc : Int) + off = (t : Int) ∧ pc + 3 = q
/-- an instruction that lays a constant on the stack -/
def pm_P (E : pm_E) (pc : Nat) (v : Int32) (q : Nat) : Prop := (∃ n : Int, decode (pm_cc E) pc = .ok (.iconst n, 1) ∧ Int32.ofInt n = v ∧ pc + 1 = q) ∨ (∃ n : Int, decode (pm_cc E) pc = .ok (.bipush n, 2) ∧ (Int8.ofInt n).toInt32 = v ∧ pc + 2 = q) ∨ (∃ n : Int, decode (pm_cc E) pc = .ok (.sipush n, 3) ∧ (Int16.ofInt n).toInt32 = v ∧ pc + 3 = q) ∨ (∃ i : Nat, decode (pm_cc E) pc = .ok (.ldc i, 2) ∧ Cond.constant E.1.cls i v ∈ pm_tbl ∧ pc + 2 = q) ∨ (∃ i : Nat, decode (pm_cc E) pc = .ok (.ldc_w i, 3) ∧ Cond.constant E.1.cls i v ∈ pm_tbl ∧ pc + 3 = q)
def pm_PL (E : pm_E) (pc : Nat) (v : Int64) (q : Nat) : Prop := (∃ n : Fin 2, decode (pm_cc E) pc = .ok (.lconst n, 1) ∧ Int64.ofNat (n : Nat) = v ∧ pc + 1 = q) ∨ (∃ i : Nat, decode (pm_cc E) pc = .ok (.ldc2_w i, 3) ∧ Cond.constantLong E.1.cls i v ∈ pm_tbl ∧ pc + 3 = q)
def pm_i (E : pm_E) (pc : Nat) (f : Fin 4 → Instr) (g : Nat → Instr) (i q : Nat) : Prop := (∃ k : Fin 4, decode (pm_cc E) pc = .ok (f k, 1) ∧ (k : Nat) = i ∧ pc + 1 = q) ∨ (decode (pm_cc E) pc = .ok (g i, 2) ∧ pc + 2 = q)
section PM
variable {E : pm_E} {pc q : Nat} {L : List (Option Value)} {st : List Value} {h : pm_H} {b : Nat × Nat} {F : Option Value → pm_H → Prop}
theorem r_push {v : Int32} (hd : pm_P E pc v q) (k : pm_V E q L (.int v :: st) h b F) : pm_V E pc L st h b F := by
  intro G p l e s m args below meth c H locs ls cells slots Q X hR hl hL hc hs hE
  have k := k G p l e s m args below meth c H locs ls cells slots Q X hR hl hL hc hs hE
  rcases hd with ⟨n, d, hv, rfl⟩ | ⟨n, d, hv, rfl⟩ | ⟨n, d, hv, rfl⟩ | ⟨i, d, hv, rfl⟩ | ⟨i, d, hv, rfl⟩
  · exact lv_iconst X.1 X.2.1 d hv k
  · exact lv_bipush X.1 X.2.1 d hv k
  · exact lv_sipush X.1 X.2.1 d hv k
  · exact lv_ldc X.1 X.2.1 X.2.2.2.1 (X.2.2.2.2.2.2.1 _ hv args) d k
  · exact lv_ldcw X.1 X.2.1 X.2.2.2.1 (X.2.2.2.2.2.2.1 _ hv args) d k
theorem r_pushl {v : Int64} (hd : pm_PL E pc v q) (k : pm_V E q L (.long v :: st) h b F) : pm_V E pc L st h b F := by
  intro G p l e s m args below meth c H locs ls cells slots Q X hR hl hL hc hs hE
  have k := k G p l e s m args below meth c H locs ls cells slots Q X hR hl hL hc hs hE
  rcases hd with ⟨n, d, hv, rfl⟩ | ⟨i, d, hv, rfl⟩
  · exact lv_lconst X.1 X.2.1 d hv k
  · exact lv_ldc2 X.1 X.2.1 X.2.2.2.1 (X.2.2.2.2.2.2.1 _ hv args) d k
theorem r_null (hd : pm_D E pc 1 .aconst_null q) (k : pm_V E q L (.null :: st) h b F) : pm_V E pc L st h b F := by
  intro G p l e s m args below meth c H locs ls cells slots Q X hR hl hL hc hs hE
  obtain ⟨d, rfl⟩ := hd
  exact lv_null X.1 X.2.1 d (k G p l e s m args below meth c H locs ls cells slots Q X hR hl hL hc hs hE)
theorem r_iloadG {i : Nat} {x : Int32} (hd : pm_i E pc .iload_n .iload i q) (e0 : L[i]? = some (some (.int x))) (k : pm_V E q L (.int x :: st) h b F) : pm_V E pc L st h b F := by
  intro G p l e s m args below meth c H locs ls cells slots Q X hR hl hL hc hs hE
  have k := k G p l e s m args below meth c H locs ls cells slots Q X hR hl hL hc hs hE
  rcases hd with ⟨n, d, hv, rfl⟩ | ⟨d, rfl⟩
  · exact lv_iload_n X.1 X.2.1 d hv (hL.at e0) k
  · exact lv_iload X.1 X.2.1 d (hL.at e0) k
theorem r_lloadG {i : Nat} {x : Int64} (hd : pm_i E pc .lload_n .lload i q) (e0 : L[i]? = some (some (.long x))) (k : pm_V E q L (.long x :: st) h b F) : pm_V E pc L st h b F := by
  intro G p l e s m args below meth c H locs ls cells slots Q X hR hl hL hc hs hE
  have k := k G p l e s m args below meth c H locs ls cells slots Q X hR hl hL hc hs hE
  rcases hd with ⟨n, d, hv, rfl⟩ | ⟨d, rfl⟩
  · exact lv_lload_n X.1 X.2.1 d hv (hL.at e0) k
  · exact lv_lload X.1 X.2.1 d (hL.at e0) k
theorem r_aloadG {i : Nat} {x : Nat} (hd : pm_i E pc .aload_n .aload i q) (e0 : L[i]? = some (some (.ref x))) (k : pm_V E q L (.ref x :: st) h b F) : pm_V E pc L st h b F := by
  intro G p l e s m args below meth c H locs ls cells slots Q X hR hl hL hc hs hE
  have k := k G p l e s m args below meth c H locs ls cells slots Q X hR hl hL hc hs hE
  rcases hd with ⟨n, d, hv, rfl⟩ | ⟨d, rfl⟩
  · exact lv_aload_n X.1 X.2.1 d hv (hL.at e0) k
  · exact lv_aload X.1 X.2.1 d (hL.at e0) k
theorem r_aloadNG {i : Nat} (hd : pm_i E pc .aload_n .aload i q) (e0 : L[i]? = some (some .null)) (k : pm_V E q L (.null :: st) h b F) : pm_V E pc L st h b F := by
  intro G p l e s m args below meth c H locs ls cells slots Q X hR hl hL hc hs hE
  have k := k G p l e s m args below meth c H locs ls cells slots Q X hR hl hL hc hs hE
  rcases hd with ⟨n, d, hv, rfl⟩ | ⟨d, rfl⟩
  · exact lv_aload_nN X.1 X.2.1 d hv (hL.at e0) k
  · exact lv_aloadN X.1 X.2.1 d (hL.at e0) k
theorem r_istoreG {i : Nat} {x : Int32} (hd : pm_i E pc .istore_n .istore i q) (hi : i < pm_nL E) (hn : ∀ w, L[i - 1]? = some (some w) → w.category = 1) (k : pm_V E q (L.set i (some (.int x))) st h b F) : pm_V E pc L (.int x :: st) h b F := by
  intro G p l e s m args below meth c H locs ls cells slots Q X hR hl hL hc hs hE
  rcases hd with ⟨n, d, hv, rfl⟩ | ⟨d, rfl⟩
  · exact lv_istore_n X.1 X.2.1 d hv hL hi rfl (fun ls' h' => k G p l e s m args below meth c H locs ls' cells slots Q X hR hl (pm_L.st1 (v := .int x) h' hn) hc hs hE)
  · exact lv_istore X.1 X.2.1 d hL hi rfl (fun ls' h' => k G p l e s m args below meth c H locs ls' cells slots Q X hR hl (pm_L.st1 (v := .int x) h' hn) hc hs hE)
theorem r_astoreG {i : Nat} {x : Nat} (hd : pm_i E pc .astore_n .astore i q) (hi : i < pm_nL E) (hn : ∀ w, L[i - 1]? = some (some w) → w.category = 1) (k : pm_V E q (L.set i (some (.ref x))) st h b F) : pm_V E pc L (.ref x :: st) h b F := by
  intro G p l e s m args below meth c H locs ls cells slots Q X hR hl hL hc hs hE
  rcases hd with ⟨n, d, hv, rfl⟩ | ⟨d, rfl⟩
  · exact lv_astore_n X.1 X.2.1 d hv hL hi rfl (fun ls' h' => k G p l e s m args below meth c H locs ls' cells slots Q X hR hl (pm_L.st1 (v := .ref x) h' hn) hc hs hE)
  · exact lv_astore X.1 X.2.1 d hL hi rfl (fun ls' h' => k G p l e s m args below meth c H locs ls' cells slots Q X hR hl (pm_L.st1 (v := .ref x) h' hn) hc hs hE)
theorem r_astoreNG {i : Nat} (hd : pm_i E pc .astore_n .astore i q) (hi : i < pm_nL E) (hn : ∀ w, L[i - 1]? = some (some w) → w.category = 1) (k : pm_V E q (L.set i (some .null)) st h b F) : pm_V E pc L (.null :: st) h b F := by
  intro G p l e s m args below meth c H locs ls cells slots Q X hR hl hL hc hs hE
  rcases hd with ⟨n, d, hv, rfl⟩ | ⟨d, rfl⟩
  · exact lv_astore_nN X.1 X.2.1 d hv hL hi rfl (fun ls' h' => k G p l e s m args below meth c H locs ls' cells slots Q X hR hl (pm_L.st1 (v := .null) h' hn) hc hs hE)
  · exact lv_astoreN X.1 X.2.1 d hL hi rfl (fun ls' h' => k G p l e s m args below meth c H locs ls' cells slots Q X hR hl (pm_L.st1 (v := .null) h' hn) hc hs hE)
theorem r_lstoreG {i : Nat} {x : Int64} (hd : pm_i E pc .lstore_n .lstore i q) (hi : i + 1 < pm_nL E) (hn : ∀ w, L[i - 1]? = some (some w) → w.category = 1) (k : pm_V E q ((L.set i (some (.long x))).set (i + 1) none) st h b F) : pm_V E pc L (.long x :: st) h b F := by
  intro G p l e s m args below meth c H locs ls cells slots Q X hR hl hL hc hs hE
  rcases hd with ⟨n, d, hv, rfl⟩ | ⟨d, rfl⟩
  · exact lv_lstore_n X.1 X.2.1 d hv hL hi rfl (fun ls' h' => k G p l e s m args below meth c H locs ls' cells slots Q X hR hl (pm_L.st2 (v := .long x) h' hn) hc hs hE)
  · exact lv_lstore X.1 X.2.1 d hL hi rfl (fun ls' h' => k G p l e s m args below meth c H locs ls' cells slots Q X hR hl (pm_L.st2 (v := .long x) h' hn) hc hs hE)
def pm_I (E : pm_E) (pc i : Nat) (n : Int32) (q : Nat) : Prop := ∃ z : Int, decode (pm_cc E) pc = .ok (.iinc i z, 3) ∧ Int32.ofInt z = n ∧ pc + 3 = q
theorem r_iincG {i : Nat} {x n : Int32} (hd : pm_I E pc i n q) (e0 : L[i]? = some (some (.int x))) (hi : i < pm_nL E) (hn : ∀ w, L[i - 1]? = some (some w) → w.category = 1) (k : pm_V E q (L.set i (some (.int (x + n)))) st h b F) : pm_V E pc L st h b F := by
  intro G p l e s m args below meth c H locs ls cells slots Q X hR hl hL hc hs hE
  obtain ⟨z, d, hz, rfl⟩ := hd
  have hm : (i, pm_rv G (.int x)) ∈ (pm_al L).map (fun q => (q.1, pm_rv G q.2)) := List.mem_map.mpr ⟨(i, .int x), pm_al_mem.mpr e0, rfl⟩
  obtain ⟨j, hj⟩ := List.mem_iff_getElem?.mp hm
  exact lv_iinc X.1 X.2.1 d hL hj (v := x + n) (by rw [hz]) hi rfl (fun ls' h' => k G p l e s m args below meth c H locs ls' cells slots Q X hR hl (pm_L.st1 (v := .int (x + n)) h' hn) hc hs hE)
theorem r_iload_0 {R : List (Option Value)} {x : Int32} (hd : pm_i E pc .iload_n .iload 0 q) (k : pm_V E q (some (.int x) :: R) (.int x :: st) h b F) : pm_V E pc (some (.int x) :: R) st h b F := r_iloadG hd rfl k
theorem r_lload_0 {R : List (Option Value)} {x : Int64} (hd : pm_i E pc .lload_n .lload 0 q) (k : pm_V E q (some (.long x) :: R) (.long x :: st) h b F) : pm_V E pc (some (.long x) :: R) st h b F := r_lloadG hd rfl k
theorem r_aload_0 {R : List (Option Value)} {x : Nat} (hd : pm_i E pc .aload_n .aload 0 q) (k : pm_V E q (some (.ref x) :: R) (.ref x :: st) h b F) : pm_V E pc (some (.ref x) :: R) st h b F := r_aloadG hd rfl k
theorem r_aloadN_0 {R : List (Option Value)} (hd : pm_i E pc .aload_n .aload 0 q) (k : pm_V E q (some .null :: R) (.null :: st) h b F) : pm_V E pc (some .null :: R) st h b F := r_aloadNG hd rfl k
theorem r_istore_0 {o : Option Value} {R : List (Option Value)} {x : Int32} (hd : pm_i E pc .istore_n .istore 0 q) (hi : 0 < pm_nL E) (hn : ∀ w, o = some w → w.category = 1) (k : pm_V E q (some (.int x) :: R) st h b F) : pm_V E pc (o :: R) (.int x :: st) h b F := r_istoreG hd hi (fun w hw => hn w (Option.some.inj hw)) k
theorem r_astore_0 {o : Option Value} {R : List (Option Value)} {x : Nat} (hd : pm_i E pc .astore_n .astore 0 q) (hi : 0 < pm_nL E) (hn : ∀ w, o = some w → w.category = 1) (k : pm_V E q (some (.ref x) :: R) st h b F) : pm_V E pc (o :: R) (.ref x :: st) h b F := r_astoreG hd hi (fun w hw => hn w (Option.some.inj hw)) k
theorem r_astoreN_0 {o : Option Value} {R : List (Option Value)} (hd : pm_i E pc .astore_n .astore 0 q) (hi : 0 < pm_nL E) (hn : ∀ w, o = some w → w.category = 1) (k : pm_V E q (some (.null) :: R) st h b F) : pm_V E pc (o :: R) (.null :: st) h b F := r_astoreNG hd hi (fun w hw => hn w (Option.some.inj hw)) k
theorem r_lstore_0 {o o2 : Option Value} {R : List (Option Value)} {x : Int64} (hd : pm_i E pc .lstore_n .lstore 0 q) (hi : 1 < pm_nL E) (hn : ∀ w, o = some w → w.category = 1) (k : pm_V E q (some (.long x) :: none :: R) st h b F) : pm_V E pc (o :: o2 :: R) (.long x :: st) h b F := r_lstoreG hd hi (fun w hw => hn w (Option.some.inj hw)) k
theorem r_iinc_0 {R : List (Option Value)} {x n : Int32} (hd : pm_I E pc 0 n q) (hi : 0 < pm_nL E) (k : pm_V E q (some (.int (x + n)) :: R) st h b F) : pm_V E pc (some (.int x) :: R) st h b F := r_iincG hd rfl hi (fun w hw => by cases hw; rfl) k
theorem r_iload_1 {l0 : Option Value} {R : List (Option Value)} {x : Int32} (hd : pm_i E pc .iload_n .iload 1 q) (k : pm_V E q (l0 :: some (.int x) :: R) (.int x :: st) h b F) : pm_V E pc (l0 :: some (.int x) :: R) st h b F := r_iloadG hd rfl k
theorem r_lload_1 {l0 : Option Value} {R : List (Option Value)} {x : Int64} (hd : pm_i E pc .lload_n .lload 1 q) (k : pm_V E q (l0 :: some (.long x) :: R) (.long x :: st) h b F) : pm_V E pc (l0 :: some (.long x) :: R) st h b F := r_lloadG hd rfl k
theorem r_aload_1 {l0 : Option Value} {R : List (Option Value)} {x : Nat} (hd : pm_i E pc .aload_n .aload 1 q) (k : pm_V E q (l0 :: some (.ref x) :: R) (.ref x :: st) h b F) : pm_V E pc (l0 :: some (.ref x) :: R) st h b F := r_aloadG hd rfl k
theorem r_aloadN_1 {l0 : Option Value} {R : List (Option Value)} (hd : pm_i E pc .aload_n .aload 1 q) (k : pm_V E q (l0 :: some .null :: R) (.null :: st) h b F) : pm_V E pc (l0 :: some .null :: R) st h b F := r_aloadNG hd rfl k
theorem r_istore_1 {l0 : Option Value} {o : Option Value} {R : List (Option Value)} {x : Int32} (hd : pm_i E pc .istore_n .istore 1 q) (hi : 1 < pm_nL E) (hn : ∀ w, l0 = some w → w.category = 1) (k : pm_V E q (l0 :: some (.int x) :: R) st h b F) : pm_V E pc (l0 :: o :: R) (.int x :: st) h b F := r_istoreG hd hi (fun w hw => hn w (Option.some.inj hw)) k
theorem r_astore_1 {l0 : Option Value} {o : Option Value} {R : List (Option Value)} {x : Nat} (hd : pm_i E pc .astore_n .astore 1 q) (hi : 1 < pm_nL E) (hn : ∀ w, l0 = some w → w.category = 1) (k : pm_V E q (l0 :: some (.ref x) :: R) st h b F) : pm_V E pc (l0 :: o :: R) (.ref x :: st) h b F := r_astoreG hd hi (fun w hw => hn w (Option.some.inj hw)) k
theorem r_astoreN_1 {l0 : Option Value} {o : Option Value} {R : List (Option Value)} (hd : pm_i E pc .astore_n .astore 1 q) (hi : 1 < pm_nL E) (hn : ∀ w, l0 = some w → w.category = 1) (k : pm_V E q (l0 :: some (.null) :: R) st h b F) : pm_V E pc (l0 :: o :: R) (.null :: st) h b F := r_astoreNG hd hi (fun w hw => hn w (Option.some.inj hw)) k
theorem r_lstore_1 {l0 : Option Value} {o o2 : Option Value} {R : List (Option Value)} {x : Int64} (hd : pm_i E pc .lstore_n .lstore 1 q) (hi : 2 < pm_nL E) (hn : ∀ w, l0 = some w → w.category = 1) (k : pm_V E q (l0 :: some (.long x) :: none :: R) st h b F) : pm_V E pc (l0 :: o :: o2 :: R) (.long x :: st) h b F := r_lstoreG hd hi (fun w hw => hn w (Option.some.inj hw)) k
theorem r_iinc_1 {l0 : Option Value} {R : List (Option Value)} {x n : Int32} (hd : pm_I E pc 1 n q) (hi : 1 < pm_nL E) (hn : ∀ w, l0 = some w → w.category = 1) (k : pm_V E q (l0 :: some (.int (x + n)) :: R) st h b F) : pm_V E pc (l0 :: some (.int x) :: R) st h b F := r_iincG hd rfl hi (fun w hw => hn w (Option.some.inj hw)) k
theorem r_iload_2 {l0 l1 : Option Value} {R : List (Option Value)} {x : Int32} (hd : pm_i E pc .iload_n .iload 2 q) (k : pm_V E q (l0 :: l1 :: some (.int x) :: R) (.int x :: st) h b F) : pm_V E pc (l0 :: l1 :: some (.int x) :: R) st h b F := r_iloadG hd rfl k
theorem r_lload_2 {l0 l1 : Option Value} {R : List (Option Value)} {x : Int64} (hd : pm_i E pc .lload_n .lload 2 q) (k : pm_V E q (l0 :: l1 :: some (.long x) :: R) (.long x :: st) h b F) : pm_V E pc (l0 :: l1 :: some (.long x) :: R) st h b F := r_lloadG hd rfl k
theorem r_aload_2 {l0 l1 : Option Value} {R : List (Option Value)} {x : Nat} (hd : pm_i E pc .aload_n .aload 2 q) (k : pm_V E q (l0 :: l1 :: some (.ref x) :: R) (.ref x :: st) h b F) : pm_V E pc (l0 :: l1 :: some (.ref x) :: R) st h b F := r_aloadG hd rfl k
theorem r_aloadN_2 {l0 l1 : Option Value} {R : List (Option Value)} (hd : pm_i E pc .aload_n .aload 2 q) (k : pm_V E q (l0 :: l1 :: some .null :: R) (.null :: st) h b F) : pm_V E pc (l0 :: l1 :: some .null :: R) st h b F := r_aloadNG hd rfl k
theorem r_istore_2 {l0 l1 : Option Value} {o : Option Value} {R : List (Option Value)} {x : Int32} (hd : pm_i E pc .istore_n .istore 2 q) (hi : 2 < pm_nL E) (hn : ∀ w, l1 = some w → w.category = 1) (k : pm_V E q (l0 :: l1 :: some (.int x) :: R) st h b F) : pm_V E pc (l0 :: l1 :: o :: R) (.int x :: st) h b F := r_istoreG hd hi (fun w hw => hn w (Option.some.inj hw)) k
theorem r_astore_2 {l0 l1 : Option Value} {o : Option Value} {R : List (Option Value)} {x : Nat} (hd : pm_i E pc .astore_n .astore 2 q) (hi : 2 < pm_nL E) (hn : ∀ w, l1 = some w → w.category = 1) (k : pm_V E q (l0 :: l1 :: some (.ref x) :: R) st h b F) : pm_V E pc (l0 :: l1 :: o :: R) (.ref x :: st) h b F := r_astoreG hd hi (fun w hw => hn w (Option.some.inj hw)) k
theorem r_astoreN_2 {l0 l1 : Option Value} {o : Option Value} {R : List (Option Value)} (hd : pm_i E pc .astore_n .astore 2 q) (hi : 2 < pm_nL E) (hn : ∀ w, l1 = some w → w.category = 1) (k : pm_V E q (l0 :: l1 :: some (.null) :: R) st h b F) : pm_V E pc (l0 :: l1 :: o :: R) (.null :: st) h b F := r_astoreNG hd hi (fun w hw => hn w (Option.some.inj hw)) k
theorem r_lstore_2 {l0 l1 : Option Value} {o o2 : Option Value} {R : List (Option Value)} {x : Int64} (hd : pm_i E pc .lstore_n .lstore 2 q) (hi : 3 < pm_nL E) (hn : ∀ w, l1 = some w → w.category = 1) (k : pm_V E q (l0 :: l1 :: some (.long x) :: none :: R) st h b F) : pm_V E pc (l0 :: l1 :: o :: o2 :: R) (.long x :: st) h b F := r_lstoreG hd hi (fun w hw => hn w (Option.some.inj hw)) k
theorem r_iinc_2 {l0 l1 : Option Value} {R : List (Option Value)} {x n : Int32} (hd : pm_I E pc 2 n q) (hi : 2 < pm_nL E) (hn : ∀ w, l1 = some w → w.category = 1) (k : pm_V E q (l0 :: l1 :: some (.int (x + n)) :: R) st h b F) : pm_V E pc (l0 :: l1 :: some (.int x) :: R) st h b F := r_iincG hd rfl hi (fun w hw => hn w (Option.some.inj hw)) k
theorem r_iload_3 {l0 l1 l2 : Option Value} {R : List (Option Value)} {x : Int32} (hd : pm_i E pc .iload_n .iload 3 q) (k : pm_V E q (l0 :: l1 :: l2 :: some (.int x) :: R) (.int x :: st) h b F) : pm_V E pc (l0 :: l1 :: l2 :: some (.int x) :: R) st h b F := r_iloadG hd rfl k
theorem r_lload_3 {l0 l1 l2 : Option Value} {R : List (Option Value)} {x : Int64} (hd : pm_i E pc .lload_n .lload 3 q) (k : pm_V E q (l0 :: l1 :: l2 :: some (.long x) :: R) (.long x :: st) h b F) : pm_V E pc (l0 :: l1 :: l2 :: some (.long x) :: R) st h b F := r_lloadG hd rfl k
theorem r_aload_3 {l0 l1 l2 : Option Value} {R : List (Option Value)} {x : Nat} (hd : pm_i E pc .aload_n .aload 3 q) (k : pm_V E q (l0 :: l1 :: l2 :: some (.ref x) :: R) (.ref x :: st) h b F) : pm_V E pc (l0 :: l1 :: l2 :: some (.ref x) :: R) st h b F := r_aloadG hd rfl k
theorem r_aloadN_3 {l0 l1 l2 : Option Value} {R : List (Option Value)} (hd : pm_i E pc .aload_n .aload 3 q) (k : pm_V E q (l0 :: l1 :: l2 :: some .null :: R) (.null :: st) h b F) : pm_V E pc (l0 :: l1 :: l2 :: some .null :: R) st h b F := r_aloadNG hd rfl k
theorem r_istore_3 {l0 l1 l2 : Option Value} {o : Option Value} {R : List (Option Value)} {x : Int32} (hd : pm_i E pc .istore_n .istore 3 q) (hi : 3 < pm_nL E) (hn : ∀ w, l2 = some w → w.category = 1) (k : pm_V E q (l0 :: l1 :: l2 :: some (.int x) :: R) st h b F) : pm_V E pc (l0 :: l1 :: l2 :: o :: R) (.int x :: st) h b F := r_istoreG hd hi (fun w hw => hn w (Option.some.inj hw)) k
theorem r_astore_3 {l0 l1 l2 : Option Value} {o : Option Value} {R : List (Option Value)} {x : Nat} (hd : pm_i E pc .astore_n .astore 3 q) (hi : 3 < pm_nL E) (hn : ∀ w, l2 = some w → w.category = 1) (k : pm_V E q (l0 :: l1 :: l2 :: some (.ref x) :: R) st h b F) : pm_V E pc (l0 :: l1 :: l2 :: o :: R) (.ref x :: st) h b F := r_astoreG hd hi (fun w hw => hn w (Option.some.inj hw)) k
theorem r_astoreN_3 {l0 l1 l2 : Option Value} {o : Option Value} {R : List (Option Value)} (hd : pm_i E pc .astore_n .astore 3 q) (hi : 3 < pm_nL E) (hn : ∀ w, l2 = some w → w.category = 1) (k : pm_V E q (l0 :: l1 :: l2 :: some (.null) :: R) st h b F) : pm_V E pc (l0 :: l1 :: l2 :: o :: R) (.null :: st) h b F := r_astoreNG hd hi (fun w hw => hn w (Option.some.inj hw)) k
theorem r_lstore_3 {l0 l1 l2 : Option Value} {o o2 : Option Value} {R : List (Option Value)} {x : Int64} (hd : pm_i E pc .lstore_n .lstore 3 q) (hi : 4 < pm_nL E) (hn : ∀ w, l2 = some w → w.category = 1) (k : pm_V E q (l0 :: l1 :: l2 :: some (.long x) :: none :: R) st h b F) : pm_V E pc (l0 :: l1 :: l2 :: o :: o2 :: R) (.long x :: st) h b F := r_lstoreG hd hi (fun w hw => hn w (Option.some.inj hw)) k
theorem r_iinc_3 {l0 l1 l2 : Option Value} {R : List (Option Value)} {x n : Int32} (hd : pm_I E pc 3 n q) (hi : 3 < pm_nL E) (hn : ∀ w, l2 = some w → w.category = 1) (k : pm_V E q (l0 :: l1 :: l2 :: some (.int (x + n)) :: R) st h b F) : pm_V E pc (l0 :: l1 :: l2 :: some (.int x) :: R) st h b F := r_iincG hd rfl hi (fun w hw => hn w (Option.some.inj hw)) k
theorem r_iload_4 {l0 l1 l2 l3 : Option Value} {R : List (Option Value)} {x : Int32} (hd : pm_i E pc .iload_n .iload 4 q) (k : pm_V E q (l0 :: l1 :: l2 :: l3 :: some (.int x) :: R) (.int x :: st) h b F) : pm_V E pc (l0 :: l1 :: l2 :: l3 :: some (.int x) :: R) st h b F := r_iloadG hd rfl k
theorem r_lload_4 {l0 l1 l2 l3 : Option Value} {R : List (Option Value)} {x : Int64} (hd : pm_i E pc .lload_n .lload 4 q) (k : pm_V E q (l0 :: l1 :: l2 :: l3 :: some (.long x) :: R) (.long x :: st) h b F) : pm_V E pc (l0 :: l1 :: l2 :: l3 :: some (.long x) :: R) st h b F := r_lloadG hd rfl k
theorem r_aload_4 {l0 l1 l2 l3 : Option Value} {R : List (Option Value)} {x : Nat} (hd : pm_i E pc .aload_n .aload 4 q) (k : pm_V E q (l0 :: l1 :: l2 :: l3 :: some (.ref x) :: R) (.ref x :: st) h b F) : pm_V E pc (l0 :: l1 :: l2 :: l3 :: some (.ref x) :: R) st h b F := r_aloadG hd rfl k
theorem r_aloadN_4 {l0 l1 l2 l3 : Option Value} {R : List (Option Value)} (hd : pm_i E pc .aload_n .aload 4 q) (k : pm_V E q (l0 :: l1 :: l2 :: l3 :: some .null :: R) (.null :: st) h b F) : pm_V E pc (l0 :: l1 :: l2 :: l3 :: some .null :: R) st h b F := r_aloadNG hd rfl k
theorem r_istore_4 {l0 l1 l2 l3 : Option Value} {o : Option Value} {R : List (Option Value)} {x : Int32} (hd : pm_i E pc .istore_n .istore 4 q) (hi : 4 < pm_nL E) (hn : ∀ w, l3 = some w → w.category = 1) (k : pm_V E q (l0 :: l1 :: l2 :: l3 :: some (.int x) :: R) st h b F) : pm_V E pc (l0 :: l1 :: l2 :: l3 :: o :: R) (.int x :: st) h b F := r_istoreG hd hi (fun w hw => hn w (Option.some.inj hw)) k
theorem r_astore_4 {l0 l1 l2 l3 : Option Value} {o : Option Value} {R : List (Option Value)} {x : Nat} (hd : pm_i E pc .astore_n .astore 4 q) (hi : 4 < pm_nL E) (hn : ∀ w, l3 = some w → w.category = 1) (k : pm_V E q (l0 :: l1 :: l2 :: l3 :: some (.ref x) :: R) st h b F) : pm_V E pc (l0 :: l1 :: l2 :: l3 :: o :: R) (.ref x :: st) h b F := r_astoreG hd hi (fun w hw => hn w (Option.some.inj hw)) k
theorem r_astoreN_4 {l0 l1 l2 l3 : Option Value} {o : Option Value} {R : List (Option Value)} (hd : pm_i E pc .astore_n .astore 4 q) (hi : 4 < pm_nL E) (hn : ∀ w, l3 = some w → w.category = 1) (k : pm_V E q (l0 :: l1 :: l2 :: l3 :: some (.null) :: R) st h b F) : pm_V E pc (l0 :: l1 :: l2 :: l3 :: o :: R) (.null :: st) h b F := r_astoreNG hd hi (fun w hw => hn w (Option.some.inj hw)) k
theorem r_lstore_4 {l0 l1 l2 l3 : Option Value} {o o2 : Option Value} {R : List (Option Value)} {x : Int64} (hd : pm_i E pc .lstore_n .lstore 4 q) (hi : 5 < pm_nL E) (hn : ∀ w, l3 = some w → w.category = 1) (k : pm_V E q (l0 :: l1 :: l2 :: l3 :: some (.long x) :: none :: R) st h b F) : pm_V E pc (l0 :: l1 :: l2 :: l3 :: o :: o2 :: R) (.long x :: st) h b F := r_lstoreG hd hi (fun w hw => hn w (Option.some.inj hw)) k
theorem r_iinc_4 {l0 l1 l2 l3 : Option Value} {R : List (Option Value)} {x n : Int32} (hd : pm_I E pc 4 n q) (hi : 4 < pm_nL E) (hn : ∀ w, l3 = some w → w.category = 1) (k : pm_V E q (l0 :: l1 :: l2 :: l3 :: some (.int (x + n)) :: R) st h b F) : pm_V E pc (l0 :: l1 :: l2 :: l3 :: some (.int x) :: R) st h b F := r_iincG hd rfl hi (fun w hw => hn w (Option.some.inj hw)) k
theorem r_iload_5 {l0 l1 l2 l3 l4 : Option Value} {R : List (Option Value)} {x : Int32} (hd : pm_i E pc .iload_n .iload 5 q) (k : pm_V E q (l0 :: l1 :: l2 :: l3 :: l4 :: some (.int x) :: R) (.int x :: st) h b F) : pm_V E pc (l0 :: l1 :: l2 :: l3 :: l4 :: some (.int x) :: R) st h b F := r_iloadG hd rfl k
theorem r_lload_5 {l0 l1 l2 l3 l4 : Option Value} {R : List (Option Value)} {x : Int64} (hd : pm_i E pc .lload_n .lload 5 q) (k : pm_V E q (l0 :: l1 :: l2 :: l3 :: l4 :: some (.long x) :: R) (.long x :: st) h b F) : pm_V E pc (l0 :: l1 :: l2 :: l3 :: l4 :: some (.long x) :: R) st h b F := r_lloadG hd rfl k
theorem r_aload_5 {l0 l1 l2 l3 l4 : Option Value} {R : List (Option Value)} {x : Nat} (hd : pm_i E pc .aload_n .aload 5 q) (k : pm_V E q (l0 :: l1 :: l2 :: l3 :: l4 :: some (.ref x) :: R) (.ref x :: st) h b F) : pm_V E pc (l0 :: l1 :: l2 :: l3 :: l4 :: some (.ref x) :: R) st h b F := r_aloadG hd rfl k
theorem r_aloadN_5 {l0 l1 l2 l3 l4 : Option Value} {R : List (Option Value)} (hd : pm_i E pc .aload_n .aload 5 q) (k : pm_V E q (l0 :: l1 :: l2 :: l3 :: l4 :: some .null :: R) (.null :: st) h b F) : pm_V E pc (l0 :: l1 :: l2 :: l3 :: l4 :: some .null :: R) st h b F := r_aloadNG hd rfl k
theorem r_istore_5 {l0 l1 l2 l3 l4 : Option Value} {o : Option Value} {R : List (Option Value)} {x : Int32} (hd : pm_i E pc .istore_n .istore 5 q) (hi : 5 < pm_nL E) (hn : ∀ w, l4 = some w → w.category = 1) (k : pm_V E q (l0 :: l1 :: l2 :: l3 :: l4 :: some (.int x) :: R) st h b F) : pm_V E pc (l0 :: l1 :: l2 :: l3 :: l4 :: o :: R) (.int x :: st) h b F := r_istoreG hd hi (fun w hw => hn w (Option.some.inj hw)) k
theorem r_astore_5 {l0 l1 l2 l3 l4 : Option Value} {o : Option Value} {R : List (Option Value)} {x : Nat} (hd : pm_i E pc .astore_n .astore 5 q) (hi : 5 < pm_nL E) (hn : ∀ w, l4 = some w → w.category = 1) (k : pm_V E q (l0 :: l1 :: l2 :: l3 :: l4 :: some (.ref x) :: R) st h b F) : pm_V E pc (l0 :: l1 :: l2 :: l3 :: l4 :: o :: R) (.ref x :: st) h b F := r_astoreG hd hi (fun w hw => hn w (Option.some.inj hw)) k
theorem r_astoreN_5 {l0 l1 l2 l3 l4 : Option Value} {o : Option Value} {R : List (Option Value)} (hd : pm_i E pc .astore_n .astore 5 q) (hi : 5 < pm_nL E) (hn : ∀ w, l4 = some w → w.category = 1) (k : pm_V E q (l0 :: l1 :: l2 :: l3 :: l4 :: some (.null) :: R) st h b F) : pm_V E pc (l0 :: l1 :: l2 :: l3 :: l4 :: o :: R) (.null :: st) h b F := r_astoreNG hd hi (fun w hw => hn w (Option.some.inj hw)) k
theorem r_lstore_5 {l0 l1 l2 l3 l4 : Option Value} {o o2 : Option Value} {R : List (Option Value)} {x : Int64} (hd : pm_i E pc .lstore_n .lstore 5 q) (hi : 6 < pm_nL E) (hn : ∀ w, l4 = some w → w.category = 1) (k : pm_V E q (l0 :: l1 :: l2 :: l3 :: l4 :: some (.long x) :: none :: R) st h b F) : pm_V E pc (l0 :: l1 :: l2 :: l3 :: l4 :: o :: o2 :: R) (.long x :: st) h b F := r_lstoreG hd hi (fun w hw => hn w (Option.some.inj hw)) k
theorem r_iinc_5 {l0 l1 l2 l3 l4 : Option Value} {R : List (Option Value)} {x n : Int32} (hd : pm_I E pc 5 n q) (hi : 5 < pm_nL E) (hn : ∀ w, l4 = some w → w.category = 1) (k : pm_V E q (l0 :: l1 :: l2 :: l3 :: l4 :: some (.int (x + n)) :: R) st h b F) : pm_V E pc (l0 :: l1 :: l2 :: l3 :: l4 :: some (.int x) :: R) st h b F := r_iincG hd rfl hi (fun w hw => hn w (Option.some.inj hw)) k
theorem r_iload_6 {l0 l1 l2 l3 l4 l5 : Option Value} {R : List (Option Value)} {x : Int32} (hd : pm_i E pc .iload_n .iload 6 q) (k : pm_V E q (l0 :: l1 :: l2 :: l3 :: l4 :: l5 :: some (.int x) :: R) (.int x :: st) h b F) : pm_V E pc (l0 :: l1 :: l2 :: l3 :: l4 :: l5 :: some (.int x) :: R) st h b F := r_iloadG hd rfl k
theorem r_lload_6 {l0 l1 l2 l3 l4 l5 : Option Value} {R : List (Option Value)} {x : Int64} (hd : pm_i E pc .lload_n .lload 6 q) (k : pm_V E q (l0 :: l1 :: l2 :: l3 :: l4 :: l5 :: some (.long x) :: R) (.long x :: st) h b F) : pm_V E pc (l0 :: l1 :: l2 :: l3 :: l4 :: l5 :: some (.long x) :: R) st h b F := r_lloadG hd rfl k
theorem r_aload_6 {l0 l1 l2 l3 l4 l5 : Option Value} {R : List (Option Value)} {x : Nat} (hd : pm_i E pc .aload_n .aload 6 q) (k : pm_V E q (l0 :: l1 :: l2 :: l3 :: l4 :: l5 :: some (.ref x) :: R) (.ref x :: st) h b F) : pm_V E pc (l0 :: l1 :: l2 :: l3 :: l4 :: l5 :: some (.ref x) :: R) st h b F := r_aloadG hd rfl k
theorem r_aloadN_6 {l0 l1 l2 l3 l4 l5 : Option Value} {R : List (Option Value)} (hd : pm_i E pc .aload_n .aload 6 q) (k : pm_V E q (l0 :: l1 :: l2 :: l3 :: l4 :: l5 :: some .null :: R) (.null :: st) h b F) : pm_V E pc (l0 :: l1 :: l2 :: l3 :: l4 :: l5 :: some .null :: R) st h b F := r_aloadNG hd rfl k
theorem r_istore_6 {l0 l1 l2 l3 l4 l5 : Option Value} {o : Option Value} {R : List (Option Value)} {x : Int32} (hd : pm_i E pc .istore_n .istore 6 q) (hi : 6 < pm_nL E) (hn : ∀ w, l5 = some w → w.category = 1) (k : pm_V E q (l0 :: l1 :: l2 :: l3 :: l4 :: l5 :: some (.int x) :: R) st h b F) : pm_V E pc (l0 :: l1 :: l2 :: l3 :: l4 :: l5 :: o :: R) (.int x :: st) h b F := r_istoreG hd hi (fun w hw => hn w (Option.some.inj hw)) k
theorem r_astore_6 {l0 l1 l2 l3 l4 l5 : Option Value} {o : Option Value} {R : List (Option Value)} {x : Nat} (hd : pm_i E pc .astore_n .astore 6 q) (hi : 6 < pm_nL E) (hn : ∀ w, l5 = some w → w.category = 1) (k : pm_V E q (l0 :: l1 :: l2 :: l3 :: l4 :: l5 :: some (.ref x) :: R) st h b F) : pm_V E pc (l0 :: l1 :: l2 :: l3 :: l4 :: l5 :: o :: R) (.ref x :: st) h b F := r_astoreG hd hi (fun w hw => hn w (Option.some.inj hw)) k
theorem r_astoreN_6 {l0 l1 l2 l3 l4 l5 : Option Value} {o : Option Value} {R : List (Option Value)} (hd : pm_i E pc .astore_n .astore 6 q) (hi : 6 < pm_nL E) (hn : ∀ w, l5 = some w → w.category = 1) (k : pm_V E q (l0 :: l1 :: l2 :: l3 :: l4 :: l5 :: some (.null) :: R) st h b F) : pm_V E pc (l0 :: l1 :: l2 :: l3 :: l4 :: l5 :: o :: R) (.null :: st) h b F := r_astoreNG hd hi (fun w hw => hn w (Option.some.inj hw)) k
theorem r_lstore_6 {l0 l1 l2 l3 l4 l5 : Option Value} {o o2 : Option Value} {R : List (Option Value)} {x : Int64} (hd : pm_i E pc .lstore_n .lstore 6 q) (hi : 7 < pm_nL E) (hn : ∀ w, l5 = some w → w.category = 1) (k : pm_V E q (l0 :: l1 :: l2 :: l3 :: l4 :: l5 :: some (.long x) :: none :: R) st h b F) : pm_V E pc (l0 :: l1 :: l2 :: l3 :: l4 :: l5 :: o :: o2 :: R) (.long x :: st) h b F := r_lstoreG hd hi (fun w hw => hn w (Option.some.inj hw)) k
theorem r_iinc_6 {l0 l1 l2 l3 l4 l5 : Option Value} {R : List (Option Value)} {x n : Int32} (hd : pm_I E pc 6 n q) (hi : 6 < pm_nL E) (hn : ∀ w, l5 = some w → w.category = 1) (k : pm_V E q (l0 :: l1 :: l2 :: l3 :: l4 :: l5 :: some (.int (x + n)) :: R) st h b F) : pm_V E pc (l0 :: l1 :: l2 :: l3 :: l4 :: l5 :: some (.int x) :: R) st h b F := r_iincG hd rfl hi (fun w hw => hn w (Option.some.inj hw)) k
theorem r_iload_7 {l0 l1 l2 l3 l4 l5 l6 : Option Value} {R : List (Option Value)} {x : Int32} (hd : pm_i E pc .iload_n .iload 7 q) (k : pm_V E q (l0 :: l1 :: l2 :: l3 :: l4 :: l5 :: l6 :: some (.int x) :: R) (.int x :: st) h b F) : pm_V E pc (l0 :: l1 :: l2 :: l3 :: l4 :: l5 :: l6 :: some (.int x) :: R) st h b F := r_iloadG hd rfl k
theorem r_lload_7 {l0 l1 l2 l3 l4 l5 l6 : Option Value} {R : List (Option Value)} {x : Int64} (hd : pm_i E pc .lload_n .lload 7 q) (k : pm_V E q (l0 :: l1 :: l2 :: l3 :: l4 :: l5 :: l6 :: some (.long x) :: R) (.long x :: st) h b F) : pm_V E pc (l0 :: l1 :: l2 :: l3 :: l4 :: l5 :: l6 :: some (.long x) :: R) st h b F := r_lloadG hd rfl k
theorem r_aload_7 {l0 l1 l2 l3 l4 l5 l6 : Option Value} {R : List (Option Value)} {x : Nat} (hd : pm_i E pc .aload_n .aload 7 q) (k : pm_V E q (l0 :: l1 :: l2 :: l3 :: l4 :: l5 :: l6 :: some (.ref x) :: R) (.ref x :: st) h b F) : pm_V E pc (l0 :: l1 :: l2 :: l3 :: l4 :: l5 :: l6 :: some (.ref x) :: R) st h b F := r_aloadG hd rfl k
theorem r_aloadN_7 {l0 l1 l2 l3 l4 l5 l6 : Option Value} {R : List (Option Value)} (hd : pm_i E pc .aload_n .aload 7 q) (k : pm_V E q (l0 :: l1 :: l2 :: l3 :: l4 :: l5 :: l6 :: some .null :: R) (.null :: st) h b F) : pm_V E pc (l0 :: l1 :: l2 :: l3 :: l4 :: l5 :: l6 :: some .null :: R) st h b F := r_aloadNG hd rfl k
theorem r_istore_7 {l0 l1 l2 l3 l4 l5 l6 : Option Value} {o : Option Value} {R : List (Option Value)} {x : Int32} (hd : pm_i E pc .istore_n .istore 7 q) (hi : 7 < pm_nL E) (hn : ∀ w, l6 = some w → w.category = 1) (k : pm_V E q (l0 :: l1 :: l2 :: l3 :: l4 :: l5 :: l6 :: some (.int x) :: R) st h b F) : pm_V E pc (l0 :: l1 :: l2 :: l3 :: l4 :: l5 :: l6 :: o :: R) (.int x :: st) h b F := r_istoreG hd hi (fun w hw => hn w (Option.some.inj hw)) k
theorem r_astore_7 {l0 l1 l2 l3 l4 l5 l6 : Option Value} {o : Option Value} {R : List (Option Value)} {x : Nat} (hd : pm_i E pc .astore_n .astore 7 q) (hi : 7 < pm_nL E) (hn : ∀ w, l6 = some w → w.category = 1) (k : pm_V E q (l0 :: l1 :: l2 :: l3 :: l4 :: l5 :: l6 :: some (.ref x) :: R) st h b F) : pm_V E pc (l0 :: l1 :: l2 :: l3 :: l4 :: l5 :: l6 :: o :: R) (.ref x :: st) h b F := r_astoreG hd hi (fun w hw => hn w (Option.some.inj hw)) k
theorem r_astoreN_7 {l0 l1 l2 l3 l4 l5 l6 : Option Value} {o : Option Value} {R : List (Option Value)} (hd : pm_i E pc .astore_n .astore 7 q) (hi : 7 < pm_nL E) (hn : ∀ w, l6 = some w → w.category = 1) (k : pm_V E q (l0 :: l1 :: l2 :: l3 :: l4 :: l5 :: l6 :: some (.null) :: R) st h b F) : pm_V E pc (l0 :: l1 :: l2 :: l3 :: l4 :: l5 :: l6 :: o :: R) (.null :: st) h b F := r_astoreNG hd hi (fun w hw => hn w (Option.some.inj hw)) k
theorem r_lstore_7 {l0 l1 l2 l3 l4 l5 l6 : Option Value} {o o2 : Option Value} {R : List (Option Value)} {x : Int64} (hd : pm_i E pc .lstore_n .lstore 7 q) (hi : 8 < pm_nL E) (hn : ∀ w, l6 = some w → w.category = 1) (k : pm_V E q (l0 :: l1 :: l2 :: l3 :: l4 :: l5 :: l6 :: some (.long x) :: none :: R) st h b F) : pm_V E pc (l0 :: l1 :: l2 :: l3 :: l4 :: l5 :: l6 :: o :: o2 :: R) (.long x :: st) h b F := r_lstoreG hd hi (fun w hw => hn w (Option.some.inj hw)) k
theorem r_iinc_7 {l0 l1 l2 l3 l4 l5 l6 : Option Value} {R : List (Option Value)} {x n : Int32} (hd : pm_I E pc 7 n q) (hi : 7 < pm_nL E) (hn : ∀ w, l6 = some w → w.category = 1) (k : pm_V E q (l0 :: l1 :: l2 :: l3 :: l4 :: l5 :: l6 :: some (.int (x + n)) :: R) st h b F) : pm_V E pc (l0 :: l1 :: l2 :: l3 :: l4 :: l5 :: l6 :: some (.int x) :: R) st h b F := r_iincG hd rfl hi (fun w hw => hn w (Option.some.inj hw)) k
theorem r_iload_8 {l0 l1 l2 l3 l4 l5 l6 l7 : Option Value} {R : List (Option Value)} {x : Int32} (hd : pm_i E pc .iload_n .iload 8 q) (k : pm_V E q (l0 :: l1 :: l2 :: l3 :: l4 :: l5 :: l6 :: l7 :: some (.int x) :: R) (.int x :: st) h b F) : pm_V E pc (l0 :: l1 :: l2 :: l3 :: l4 :: l5 :: l6 :: l7 :: some (.int x) :: R) st h b F := r_iloadG hd rfl k
theorem r_lload_8 {l0 l1 l2 l3 l4 l5 l6 l7 : Option Value} {R : List (Option Value)} {x : Int64} (hd : pm_i E pc .lload_n .lload 8 q) (k : pm_V E q (l0 :: l1 :: l2 :: l3 :: l4 :: l5 :: l6 :: l7 :: some (.long x) :: R) (.long x :: st) h b F) : pm_V E pc (l0 :: l1 :: l2 :: l3 :: l4 :: l5 :: l6 :: l7 :: some (.long x) :: R) st h b F := r_lloadG hd rfl k
theorem r_aload_8 {l0 l1 l2 l3 l4 l5 l6 l7 : Option Value} {R : List (Option Value)} {x : Nat} (hd : pm_i E pc .aload_n .aload 8 q) (k : pm_V E q (l0 :: l1 :: l2 :: l3 :: l4 :: l5 :: l6 :: l7 :: some (.ref x) :: R) (.ref x :: st) h b F) : pm_V E pc (l0 :: l1 :: l2 :: l3 :: l4 :: l5 :: l6 :: l7 :: some (.ref x) :: R) st h b F := r_aloadG hd rfl k
theorem r_aloadN_8 {l0 l1 l2 l3 l4 l5 l6 l7 : Option Value} {R : List (Option Value)} (hd : pm_i E pc .aload_n .aload 8 q) (k : pm_V E q (l0 :: l1 :: l2 :: l3 :: l4 :: l5 :: l6 :: l7 :: some .null :: R) (.null :: st) h b F) : pm_V E pc (l0 :: l1 :: l2 :: l3 :: l4 :: l5 :: l6 :: l7 :: some .null :: R) st h b F := r_aloadNG hd rfl k
theorem r_istore_8 {l0 l1 l2 l3 l4 l5 l6 l7 : Option Value} {o : Option Value} {R : List (Option Value)} {x : Int32} (hd : pm_i E pc .istore_n .istore 8 q) (hi : 8 < pm_nL E) (hn : ∀ w, l7 = some w → w.category = 1) (k : pm_V E q (l0 :: l1 :: l2 :: l3 :: l4 :: l5 :: l6 :: l7 :: some (.int x) :: R) st h b F) : pm_V E pc (l0 :: l1 :: l2 :: l3 :: l4 :: l5 :: l6 :: l7 :: o :: R) (.int x :: st) h b F := r_istoreG hd hi (fun w hw => hn w (Option.some.inj hw)) k
theorem r_astore_8 {l0 l1 l2 l3 l4 l5 l6 l7 : Option Value} {o : Option Value} {R : List (Option Value)} {x : Nat} (hd : pm_i E pc .astore_n .astore 8 q) (hi : 8 < pm_nL E) (hn : ∀ w, l7 = some w → w.category = 1) (k : pm_V E q (l0 :: l1 :: l2 :: l3 :: l4 :: l5 :: l6 :: l7 :: some (.ref x) :: R) st h b F) : pm_V E pc (l0 :: l1 :: l2 :: l3 :: l4 :: l5 :: l6 :: l7 :: o :: R) (.ref x :: st) h b F := r_astoreG hd hi (fun w hw => hn w (Option.some.inj hw)) k
theorem r_astoreN_8 {l0 l1 l2 l3 l4 l5 l6 l7 : Option Value} {o : Option Value} {R : List (Option Value)} (hd : pm_i E pc .astore_n .astore 8 q) (hi : 8 < pm_nL E) (hn : ∀ w, l7 = some w → w.category = 1) (k : pm_V E q (l0 :: l1 :: l2 :: l3 :: l4 :: l5 :: l6 :: l7 :: some (.null) :: R) st h b F) : pm_V E pc (l0 :: l1 :: l2 :: l3 :: l4 :: l5 :: l6 :: l7 :: o :: R) (.null :: st) h b F := r_astoreNG hd hi (fun w hw => hn w (Option.some.inj hw)) k
theorem r_lstore_8 {l0 l1 l2 l3 l4 l5 l6 l7 : Option Value} {o o2 : Option Value} {R : List (Option Value)} {x : Int64} (hd : pm_i E pc .lstore_n .lstore 8 q) (hi : 9 < pm_nL E) (hn : ∀ w, l7 = some w → w.category = 1) (k : pm_V E q (l0 :: l1 :: l2 :: l3 :: l4 :: l5 :: l6 :: l7 :: some (.long x) :: none :: R) st h b F) : pm_V E pc (l0 :: l1 :: l2 :: l3 :: l4 :: l5 :: l6 :: l7 :: o :: o2 :: R) (.long x :: st) h b F := r_lstoreG hd hi (fun w hw => hn w (Option.some.inj hw)) k
theorem r_iinc_8 {l0 l1 l2 l3 l4 l5 l6 l7 : Option Value} {R : List (Option Value)} {x n : Int32} (hd : pm_I E pc 8 n q) (hi : 8 < pm_nL E) (hn : ∀ w, l7 = some w → w.category = 1) (k : pm_V E q (l0 :: l1 :: l2 :: l3 :: l4 :: l5 :: l6 :: l7 :: some (.int (x + n)) :: R) st h b F) : pm_V E pc (l0 :: l1 :: l2 :: l3 :: l4 :: l5 :: l6 :: l7 :: some (.int x) :: R) st h b F := r_iincG hd rfl hi (fun w hw => hn w (Option.some.inj hw)) k
theorem r_iload_9 {l0 l1 l2 l3 l4 l5 l6 l7 l8 : Option Value} {R : List (Option Value)} {x : Int32} (hd : pm_i E pc .iload_n .iload 9 q) (k : pm_V E q (l0 :: l1 :: l2 :: l3 :: l4 :: l5 :: l6 :: l7 :: l8 :: some (.int x) :: R) (.int x :: st) h b F) : pm_V E pc (l0 :: l1 :: l2 :: l3 :: l4 :: l5 :: l6 :: l7 :: l8 :: some (.int x) :: R) st h b F := r_iloadG hd rfl k
theorem r_lload_9 {l0 l1 l2 l3 l4 l5 l6 l7 l8 : Option Value} {R : List (Option Value)} {x : Int64} (hd : pm_i E pc .lload_n .lload 9 q) (k : pm_V E q (l0 :: l1 :: l2 :: l3 :: l4 :: l5 :: l6 :: l7 :: l8 :: some (.long x) :: R) (.long x :: st) h b F) : pm_V E pc (l0 :: l1 :: l2 :: l3 :: l4 :: l5 :: l6 :: l7 :: l8 :: some (.long x) :: R) st h b F := r_lloadG hd rfl k
theorem r_aload_9 {l0 l1 l2 l3 l4 l5 l6 l7 l8 : Option Value} {R : List (Option Value)} {x : Nat} (hd : pm_i E pc .aload_n .aload 9 q) (k : pm_V E q (l0 :: l1 :: l2 :: l3 :: l4 :: l5 :: l6 :: l7 :: l8 :: some (.ref x) :: R) (.ref x :: st) h b F) : pm_V E pc (l0 :: l1 :: l2 :: l3 :: l4 :: l5 :: l6 :: l7 :: l8 :: some (.ref x) :: R) st h b F := r_aloadG hd rfl k
theorem r_aloadN_9 {l0 l1 l2 l3 l4 l5 l6 l7 l8 : Option Value} {R : List (Option Value)} (hd : pm_i E pc .aload_n .aload 9 q) (k : pm_V E q (l0 :: l1 :: l2 :: l3 :: l4 :: l5 :: l6 :: l7 :: l8 :: some .null :: R) (.null :: st) h b F) : pm_V E pc (l0 :: l1 :: l2 :: l3 :: l4 :: l5 :: l6 :: l7 :: l8 :: some .null :: R) st h b F := r_aloadNG hd rfl k
theorem r_istore_9 {l0 l1 l2 l3 l4 l5 l6 l7 l8 : Option Value} {o : Option Value} {R : List (Option Value)} {x : Int32} (hd : pm_i E pc .istore_n .istore 9 q) (hi : 9 < pm_nL E) (hn : ∀ w, l8 = some w → w.category = 1) (k : pm_V E q (l0 :: l1 :: l2 :: l3 :: l4 :: l5 :: l6 :: l7 :: l8 :: some (.int x) :: R) st h b F) : pm_V E pc (l0 :: l1 :: l2 :: l3 :: l4 :: l5 :: l6 :: l7 :: l8 :: o :: R) (.int x :: st) h b F := r_istoreG hd hi (fun w hw => hn w (Option.some.inj hw)) k
theorem r_astore_9 {l0 l1 l2 l3 l4 l5 l6 l7 l8 : Option Value} {o : Option Value} {R : List (Option Value)} {x : Nat} (hd : pm_i E pc .astore_n .astore 9 q) (hi : 9 < pm_nL E) (hn : ∀ w, l8 = some w → w.category = 1) (k : pm_V E q (l0 :: l1 :: l2 :: l3 :: l4 :: l5 :: l6 :: l7 :: l8 :: some (.ref x) :: R) st h b F) : pm_V E pc (l0 :: l1 :: l2 :: l3 :: l4 :: l5 :: l6 :: l7 :: l8 :: o :: R) (.ref x :: st) h b F := r_astoreG hd hi (fun w hw => hn w (Option.some.inj hw)) k
theorem r_astoreN_9 {l0 l1 l2 l3 l4 l5 l6 l7 l8 : Option Value} {o : Option Value} {R : List (Option Value)} (hd : pm_i E pc .astore_n .astore 9 q) (hi : 9 < pm_nL E) (hn : ∀ w, l8 = some w → w.category = 1) (k : pm_V E q (l0 :: l1 :: l2 :: l3 :: l4 :: l5 :: l6 :: l7 :: l8 :: some (.null) :: R) st h b F) : pm_V E pc (l0 :: l1 :: l2 :: l3 :: l4 :: l5 :: l6 :: l7 :: l8 :: o :: R) (.null :: st) h b F := r_astoreNG hd hi (fun w hw => hn w (Option.some.inj hw)) k
theorem r_lstore_9 {l0 l1 l2 l3 l4 l5 l6 l7 l8 : Option Value} {o o2 : Option Value} {R : List (Option Value)} {x : Int64} (hd : pm_i E pc .lstore_n .lstore 9 q) (hi : 10 < pm_nL E) (hn : ∀ w, l8 = some w → w.category = 1) (k : pm_V E q (l0 :: l1 :: l2 :: l3 :: l4 :: l5 :: l6 :: l7 :: l8 :: some (.long x) :: none :: R) st h b F) : pm_V E pc (l0 :: l1 :: l2 :: l3 :: l4 :: l5 :: l6 :: l7 :: l8 :: o :: o2 :: R) (.long x :: st) h b F := r_lstoreG hd hi (fun w hw => hn w (Option.some.inj hw)) k
theorem r_iinc_9 {l0 l1 l2 l3 l4 l5 l6 l7 l8 : Option Value} {R : List (Option Value)} {x n : Int32} (hd : pm_I E pc 9 n q) (hi : 9 < pm_nL E) (hn : ∀ w, l8 = some w → w.category = 1) (k : pm_V E q (l0 :: l1 :: l2 :: l3 :: l4 :: l5 :: l6 :: l7 :: l8 :: some (.int (x + n)) :: R) st h b F) : pm_V E pc (l0 :: l1 :: l2 :: l3 :: l4 :: l5 :: l6 :: l7 :: l8 :: some (.int x) :: R) st h b F := r_iincG hd rfl hi (fun w hw => hn w (Option.some.inj hw)) k
theorem r_iload_10 {l0 l1 l2 l3 l4 l5 l6 l7 l8 l9 : Option Value} {R : List (Option Value)} {x : Int32} (hd : pm_i E pc .iload_n .iload 10 q) (k : pm_V E q (l0 :: l1 :: l2 :: l3 :: l4 :: l5 :: l6 :: l7 :: l8 :: l9 :: some (.int x) :: R) (.int x :: st) h b F) : pm_V E pc (l0 :: l1 :: l2 :: l3 :: l4 :: l5 :: l6 :: l7 :: l8 :: l9 :: some (.int x) :: R) st h b F := r_iloadG hd rfl k
theorem r_lload_10 {l0 l1 l2 l3 l4 l5 l6 l7 l8 l9 : Option Value} {R : List (Option Value)} {x : Int64} (hd : pm_i E pc .lload_n .lload 10 q) (k : pm_V E q (l0 :: l1 :: l2 :: l3 :: l4 :: l5 :: l6 :: l7 :: l8 :: l9 :: some (.long x) :: R) (.long x :: st) h b F) : pm_V E pc (l0 :: l1 :: l2 :: l3 :: l4 :: l5 :: l6 :: l7 :: l8 :: l9 :: some (.long x) :: R) st h b F := r_lloadG hd rfl k
theorem r_aload_10 {l0 l1 l2 l3 l4 l5 l6 l7 l8 l9 : Option Value} {R : List (Option Value)} {x : Nat} (hd : pm_i E pc .aload_n .aload 10 q) (k : pm_V E q (l0 :: l1 :: l2 :: l3 :: l4 :: l5 :: l6 :: l7 :: l8 :: l9 :: some (.ref x) :: R) (.ref x :: st) h b F) : pm_V E pc (l0 :: l1 :: l2 :: l3 :: l4 :: l5 :: l6 :: l7 :: l8 :: l9 :: some (.ref x) :: R) st h b F := r_aloadG hd rfl k
theorem r_aloadN_10 {l0 l1 l2 l3 l4 l5 l6 l7 l8 l9 : Option Value} {R : List (Option Value)} (hd : pm_i E pc .aload_n .aload 10 q) (k : pm_V E q (l0 :: l1 :: l2 :: l3 :: l4 :: l5 :: l6 :: l7 :: l8 :: l9 :: some .null :: R) (.null :: st) h b F) : pm_V E pc (l0 :: l1 :: l2 :: l3 :: l4 :: l5 :: l6 :: l7 :: l8 :: l9 :: some .null :: R) st h b F := r_aloadNG hd rfl k
theorem r_istore_10 {l0 l1 l2 l3 l4 l5 l6 l7 l8 l9 : Option Value} {o : Option Value} {R : List (Option Value)} {x : Int32} (hd : pm_i E pc .istore_n .istore 10 q) (hi : 10 < pm_nL E) (hn : ∀ w, l9 = some w → w.category = 1) (k : pm_V E q (l0 :: l1 :: l2 :: l3 :: l4 :: l5 :: l6 :: l7 :: l8 :: l9 :: some (.int x) :: R) st h b F) : pm_V E pc (l0 :: l1 :: l2 :: l3 :: l4 :: l5 :: l6 :: l7 :: l8 :: l9 :: o :: R) (.int x :: st) h b F := r_istoreG hd hi (fun w hw => hn w (Option.some.inj hw)) k
theorem r_astore_10 {l0 l1 l2 l3 l4 l5 l6 l7 l8 l9 : Option Value} {o : Option Value} {R : List (Option Value)} {x : Nat} (hd : pm_i E pc .astore_n .astore 10 q) (hi : 10 < pm_nL E) (hn : ∀ w, l9 = some w → w.category = 1) (k : pm_V E q (l0 :: l1 :: l2 :: l3 :: l4 :: l5 :: l6 :: l7 :: l8 :: l9 :: some (.ref x) :: R) st h b F) : pm_V E pc (l0 :: l1 :: l2 :: l3 :: l4 :: l5 :: l6 :: l7 :: l8 :: l9 :: o :: R) (.ref x :: st) h b F := r_astoreG hd hi (fun w hw => hn w (Option.some.inj hw)) k
theorem r_astoreN_10 {l0 l1 l2 l3 l4 l5 l6 l7 l8 l9 : Option Value} {o : Option Value} {R : List (Option Value)} (hd : pm_i E pc .astore_n .astore 10 q) (hi : 10 < pm_nL E) (hn : ∀ w, l9 = some w → w.category = 1) (k : pm_V E q (l0 :: l1 :: l2 :: l3 :: l4 :: l5 :: l6 :: l7 :: l8 :: l9 :: some (.null) :: R) st h b F) : pm_V E pc (l0 :: l1 :: l2 :: l3 :: l4 :: l5 :: l6 :: l7 :: l8 :: l9 :: o :: R) (.null :: st) h b F := r_astoreNG hd hi (fun w hw => hn w (Option.some.inj hw)) k
theorem r_lstore_10 {l0 l1 l2 l3 l4 l5 l6 l7 l8 l9 : Option Value} {o o2 : Option Value} {R : List (Option Value)} {x : Int64} (hd : pm_i E pc .lstore_n .lstore 10 q) (hi : 11 < pm_nL E) (hn : ∀ w, l9 = some w → w.category = 1) (k : pm_V E q (l0 :: l1 :: l2 :: l3 :: l4 :: l5 :: l6 :: l7 :: l8 :: l9 :: some (.long x) :: none :: R) st h b F) : pm_V E pc (l0 :: l1 :: l2 :: l3 :: l4 :: l5 :: l6 :: l7 :: l8 :: l9 :: o :: o2 :: R) (.long x :: st) h b F := r_lstoreG hd hi (fun w hw => hn w (Option.some.inj hw)) k
theorem r_iinc_10 {l0 l1 l2 l3 l4 l5 l6 l7 l8 l9 : Option Value} {R : List (Option Value)} {x n : Int32} (hd : pm_I E pc 10 n q) (hi : 10 < pm_nL E) (hn : ∀ w, l9 = some w → w.category = 1) (k : pm_V E q (l0 :: l1 :: l2 :: l3 :: l4 :: l5 :: l6 :: l7 :: l8 :: l9 :: some (.int (x + n)) :: R) st h b F) : pm_V E pc (l0 :: l1 :: l2 :: l3 :: l4 :: l5 :: l6 :: l7 :: l8 :: l9 :: some (.int x) :: R) st h b F := r_iincG hd rfl hi (fun w hw => hn w (Option.some.inj hw)) k
theorem r_iload_11 {l0 l1 l2 l3 l4 l5 l6 l7 l8 l9 l10 : Option Value} {R : List (Option Value)} {x : Int32} (hd : pm_i E pc .iload_n .iload 11 q) (k : pm_V E q (l0 :: l1 :: l2 :: l3 :: l4 :: l5 :: l6 :: l7 :: l8 :: l9 :: l10 :: some (.int x) :: R) (.int x :: st) h b F) : pm_V E pc (l0 :: l1 :: l2 :: l3 :: l4 :: l5 :: l6 :: l7 :: l8 :: l9 :: l10 :: some (.int x) :: R) st h b F := r_iloadG hd rfl k
theorem r_lload_11 {l0 l1 l2 l3 l4 l5 l6 l7 l8 l9 l10 : Option Value} {R : List (Option Value)} {x : Int64} (hd : pm_i E pc .lload_n .lload 11 q) (k : pm_V E q (l0 :: l1 :: l2 :: l3 :: l4 :: l5 :: l6 :: l7 :: l8 :: l9 :: l10 :: some (.long x) :: R) (.long x :: st) h b F) : pm_V E pc (l0 :: l1 :: l2 :: l3 :: l4 :: l5 :: l6 :: l7 :: l8 :: l9 :: l10 :: some (.long x) :: R) st h b F := r_lloadG hd rfl k
theorem r_aload_11 {l0 l1 l2 l3 l4 l5 l6 l7 l8 l9 l10 : Option Value} {R : List (Option Value)} {x : Nat} (hd : pm_i E pc .aload_n .aload 11 q) (k : pm_V E q (l0 :: l1 :: l2 :: l3 :: l4 :: l5 :: l6 :: l7 :: l8 :: l9 :: l10 :: some (.ref x) :: R) (.ref x :: st) h b F) : pm_V E pc (l0 :: l1 :: l2 :: l3 :: l4 :: l5 :: l6 :: l7 :: l8 :: l9 :: l10 :: some (.ref x) :: R) st h b F := r_aloadG hd rfl k
theorem r_aloadN_11 {l0 l1 l2 l3 l4 l5 l6 l7 l8 l9 l10 : Option Value} {R : List (Option Value)} (hd : pm_i E pc .aload_n .aload 11 q) (k : pm_V E q (l0 :: l1 :: l2 :: l3 :: l4 :: l5 :: l6 :: l7 :: l8 :: l9 :: l10 :: some .null :: R) (.null :: st) h b F) : pm_V E pc (l0 :: l1 :: l2 :: l3 :: l4 :: l5 :: l6 :: l7 :: l8 :: l9 :: l10 :: some .null :: R) st h b F := r_aloadNG hd rfl k
theorem r_istore_11 {l0 l1 l2 l3 l4 l5 l6 l7 l8 l9 l10 : Option Value} {o : Option Value} {R : List (Option Value)} {x : Int32} (hd : pm_i E pc .istore_n .istore 11 q) (hi : 11 < pm_nL E) (hn : ∀ w, l10 = some w → w.category = 1) (k : pm_V E q (l0 :: l1 :: l2 :: l3 :: l4 :: l5 :: l6 :: l7 :: l8 :: l9 :: l10 :: some (.int x) :: R) st h b F) : pm_V E pc (l0 :: l1 :: l2 :: l3 :: l4 :: l5 :: l6 :: l7 :: l8 :: l9 :: l10 :: o :: R) (.int x :: st) h b F := r_istoreG hd hi (fun w hw => hn w (Option.some.inj hw)) k
theorem r_astore_11 {l0 l1 l2 l3 l4 l5 l6 l7 l8 l9 l10 : Option Value} {o : Option Value} {R : List (Option Value)} {x : Nat} (hd : pm_i E pc .astore_n .astore 11 q) (hi : 11 < pm_nL E) (hn : ∀ w, l10 = some w → w.category = 1) (k : pm_V E q (l0 :: l1 :: l2 :: l3 :: l4 :: l5 :: l6 :: l7 :: l8 :: l9 :: l10 :: some (.ref x) :: R) st h b F) : pm_V E pc (l0 :: l1 :: l2 :: l3 :: l4 :: l5 :: l6 :: l7 :: l8 :: l9 :: l10 :: o :: R) (.ref x :: st) h b F := r_astoreG hd hi (fun w hw => hn w (Option.some.inj hw)) k
theorem r_astoreN_11 {l0 l1 l2 l3 l4 l5 l6 l7 l8 l9 l10 : Option Value} {o : Option Value} {R : List (Option Value)} (hd : pm_i E pc .astore_n .astore 11 q) (hi : 11 < pm_nL E) (hn : ∀ w, l10 = some w → w.category = 1) (k : pm_V E q (l0 :: l1 :: l2 :: l3 :: l4 :: l5 :: l6 :: l7 :: l8 :: l9 :: l10 :: some (.null) :: R) st h b F) : pm_V E pc (l0 :: l1 :: l2 :: l3 :: l4 :: l5 :: l6 :: l7 :: l8 :: l9 :: l10 :: o :: R) (.null :: st) h b F := r_astoreNG hd hi (fun w hw => hn w (Option.some.inj hw)) k
theorem r_lstore_11 {l0 l1 l2 l3 l4 l5 l6 l7 l8 l9 l10 : Option Value} {o o2 : Option Value} {R : List (Option Value)} {x : Int64} (hd : pm_i E pc .lstore_n .lstore 11 q) (hi : 12 < pm_nL E) (hn : ∀ w, l10 = some w → w.category = 1) (k : pm_V E q (l0 :: l1 :: l2 :: l3 :: l4 :: l5 :: l6 :: l7 :: l8 :: l9 :: l10 :: some (.long x) :: none :: R) st h b F) : pm_V E pc (l0 :: l1 :: l2 :: l3 :: l4 :: l5 :: l6 :: l7 :: l8 :: l9 :: l10 :: o :: o2 :: R) (.long x :: st) h b F := r_lstoreG hd hi (fun w hw => hn w (Option.some.inj hw)) k
theorem r_iinc_11 {l0 l1 l2 l3 l4 l5 l6 l7 l8 l9 l10 : Option Value} {R : List (Option Value)} {x n : Int32} (hd : pm_I E pc 11 n q) (hi : 11 < pm_nL E) (hn : ∀ w, l10 = some w → w.category = 1) (k : pm_V E q (l0 :: l1 :: l2 :: l3 :: l4 :: l5 :: l6 :: l7 :: l8 :: l9 :: l10 :: some (.int (x + n)) :: R) st h b F) : pm_V E pc (l0 :: l1 :: l2 :: l3 :: l4 :: l5 :: l6 :: l7 :: l8 :: l9 :: l10 :: some (.int x) :: R) st h b F := r_iincG hd rfl hi (fun w hw => hn w (Option.some.inj hw)) k
theorem r_iload_12 {l0 l1 l2 l3 l4 l5 l6 l7 l8 l9 l10 l11 : Option Value} {R : List (Option Value)} {x : Int32} (hd : pm_i E pc .iload_n .iload 12 q) (k : pm_V E q (l0 :: l1 :: l2 :: l3 :: l4 :: l5 :: l6 :: l7 :: l8 :: l9 :: l10 :: l11 :: some (.int x) :: R) (.int x :: st) h b F) : pm_V E pc (l0 :: l1 :: l2 :: l3 :: l4 :: l5 :: l6 :: l7 :: l8 :: l9 :: l10 :: l11 :: some (.int x) :: R) st h b F := r_iloadG hd rfl k
theorem r_lload_12 {l0 l1 l2 l3 l4 l5 l6 l7 l8 l9 l10 l11 : Option Value} {R : List (Option Value)} {x : Int64} (hd : pm_i E pc .lload_n .lload 12 q) (k : pm_V E q (l0 :: l1 :: l2 :: l3 :: l4 :: l5 :: l6 :: l7 :: l8 :: l9 :: l10 :: l11 :: some (.long x) :: R) (.long x :: st) h b F) : pm_V E pc (l0 :: l1 :: l2 :: l3 :: l4 :: l5 :: l6 :: l7 :: l8 :: l9 :: l10 :: l11 :: some (.long x) :: R) st h b F := r_lloadG hd rfl k
theorem r_aload_12 {l0 l1 l2 l3 l4 l5 l6 l7 l8 l9 l10 l11 : Option Value} {R : List (Option Value)} {x : Nat} (hd : pm_i E pc .aload_n .aload 12 q) (k : pm_V E q (l0 :: l1 :: l2 :: l3 :: l4 :: l5 :: l6 :: l7 :: l8 :: l9 :: l10 :: l11 :: some (.ref x) :: R) (.ref x :: st) h b F) : pm_V E pc (l0 :: l1 :: l2 :: l3 :: l4 :: l5 :: l6 :: l7 :: l8 :: l9 :: l10 :: l11 :: some (.ref x) :: R) st h b F := r_aloadG hd rfl k
theorem r_aloadN_12 {l0 l1 l2 l3 l4 l5 l6 l7 l8 l9 l10 l11 : Option Value} {R : List (Option Value)} (hd : pm_i E pc .aload_n .aload 12 q) (k : pm_V E q (l0 :: l1 :: l2 :: l3 :: l4 :: l5 :: l6 :: l7 :: l8 :: l9 :: l10 :: l11 :: some .null :: R) (.null :: st) h b F) : pm_V E pc (l0 :: l1 :: l2 :: l3 :: l4 :: l5 :: l6 :: l7 :: l8 :: l9 :: l10 :: l11 :: some .null :: R) st h b F := r_aloadNG hd rfl k
theorem r_istore_12 {l0 l1 l2 l3 l4 l5 l6 l7 l8 l9 l10 l11 : Option Value} {o : Option Value} {R : List (Option Value)} {x : Int32} (hd : pm_i E pc .istore_n .istore 12 q) (hi : 12 < pm_nL E) (hn : ∀ w, l11 = some w → w.category = 1) (k : pm_V E q (l0 :: l1 :: l2 :: l3 :: l4 :: l5 :: l6 :: l7 :: l8 :: l9 :: l10 :: l11 :: some (.int x) :: R) st h b F) : pm_V E pc (l0 :: l1 :: l2 :: l3 :: l4 :: l5 :: l6 :: l7 :: l8 :: l9 :: l10 :: l11 :: o :: R) (.int x :: st) h b F := r_istoreG hd hi (fun w hw => hn w (Option.some.inj hw)) k
theorem r_astore_12 {l0 l1 l2 l3 l4 l5 l6 l7 l8 l9 l10 l11 : Option Value} {o : Option Value} {R : List (Option Value)} {x : Nat} (hd : pm_i E pc .astore_n .astore 12 q) (hi : 12 < pm_nL E) (hn : ∀ w, l11 = some w → w.category = 1) (k : pm_V E q (l0 :: l1 :: l2 :: l3 :: l4 :: l5 :: l6 :: l7 :: l8 :: l9 :: l10 :: l11 :: some (.ref x) :: R) st h b F) : pm_V E pc (l0 :: l1 :: l2 :: l3 :: l4 :: l5 :: l6 :: l7 :: l8 :: l9 :: l10 :: l11 :: o :: R) (.ref x :: st) h b F := r_astoreG hd hi (fun w hw => hn w (Option.some.inj hw)) k
theorem r_astoreN_12 {l0 l1 l2 l3 l4 l5 l6 l7 l8 l9 l10 l11 : Option Value} {o : Option Value} {R : List (Option Value)} (hd : pm_i E pc .astore_n .astore 12 q) (hi : 12 < pm_nL E) (hn : ∀ w, l11 = some w → w.category = 1) (k : pm_V E q (l0 :: l1 :: l2 :: l3 :: l4 :: l5 :: l6 :: l7 :: l8 :: l9 :: l10 :: l11 :: some (.null) :: R) st h b F) : pm_V E pc (l0 :: l1 :: l2 :: l3 :: l4 :: l5 :: l6 :: l7 :: l8 :: l9 :: l10 :: l11 :: o :: R) (.null :: st) h b F := r_astoreNG hd hi (fun w hw => hn w (Option.some.inj hw)) k
theorem r_lstore_12 {l0 l1 l2 l3 l4 l5 l6 l7 l8 l9 l10 l11 : Option Value} {o o2 : Option Value} {R : List (Option Value)} {x : Int64} (hd : pm_i E pc .lstore_n .lstore 12 q) (hi : 13 < pm_nL E) (hn : ∀ w, l11 = some w → w.category = 1) (k : pm_V E q (l0 :: l1 :: l2 :: l3 :: l4 :: l5 :: l6 :: l7 :: l8 :: l9 :: l10 :: l11 :: some (.long x) :: none :: R) st h b F) : pm_V E pc (l0 :: l1 :: l2 :: l3 :: l4 :: l5 :: l6 :: l7 :: l8 :: l9 :: l10 :: l11 :: o :: o2 :: R) (.long x :: st) h b F := r_lstoreG hd hi (fun w hw => hn w (Option.some.inj hw)) k
theorem r_iinc_12 {l0 l1 l2 l3 l4 l5 l6 l7 l8 l9 l10 l11 : Option Value} {R : List (Option Value)} {x n : Int32} (hd : pm_I E pc 12 n q) (hi : 12 < pm_nL E) (hn : ∀ w, l11 = some w → w.category = 1) (k : pm_V E q (l0 :: l1 :: l2 :: l3 :: l4 :: l5 :: l6 :: l7 :: l8 :: l9 :: l10 :: l11 :: some (.int (x + n)) :: R) st h b F) : pm_V E pc (l0 :: l1 :: l2 :: l3 :: l4 :: l5 :: l6 :: l7 :: l8 :: l9 :: l10 :: l11 :: some (.int x) :: R) st h b F := r_iincG hd rfl hi (fun w hw => hn w (Option.some.inj hw)) k
theorem r_iload_13 {l0 l1 l2 l3 l4 l5 l6 l7 l8 l9 l10 l11 l12 : Option Value} {R : List (Option Value)} {x : Int32} (hd : pm_i E pc .iload_n .iload 13 q) (k : pm_V E q (l0 :: l1 :: l2 :: l3 :: l4 :: l5 :: l6 :: l7 :: l8 :: l9 :: l10 :: l11 :: l12 :: some (.int x) :: R) (.int x :: st) h b F) : pm_V E pc (l0 :: l1 :: l2 :: l3 :: l4 :: l5 :: l6 :: l7 :: l8 :: l9 :: l10 :: l11 :: l12 :: some (.int x) :: R) st h b F := r_iloadG hd rfl k
theorem r_lload_13 {l0 l1 l2 l3 l4 l5 l6 l7 l8 l9 l10 l11 l12 : Option Value} {R : List (Option Value)} {x : Int64} (hd : pm_i E pc .lload_n .lload 13 q) (k : pm_V E q (l0 :: l1 :: l2 :: l3 :: l4 :: l5 :: l6 :: l7 :: l8 :: l9 :: l10 :: l11 :: l12 :: some (.long x) :: R) (.long x :: st) h b F) : pm_V E pc (l0 :: l1 :: l2 :: l3 :: l4 :: l5 :: l6 :: l7 :: l8 :: l9 :: l10 :: l11 :: l12 :: some (.long x) :: R) st h b F := r_lloadG hd rfl k
theorem r_aload_13 {l0 l1 l2 l3 l4 l5 l6 l7 l8 l9 l10 l11 l12 : Option Value} {R : List (Option Value)} {x : Nat} (hd : pm_i E pc .aload_n .aload 13 q) (k : pm_V E q (l0 :: l1 :: l2 :: l3 :: l4 :: l5 :: l6 :: l7 :: l8 :: l9 :: l10 :: l11 :: l12 :: some (.ref x) :: R) (.ref x :: st) h b F) : pm_V E pc (l0 :: l1 :: l2 :: l3 :: l4 :: l5 :: l6 :: l7 :: l8 :: l9 :: l10 :: l11 :: l12 :: some (.ref x) :: R) st h b F := r_aloadG hd rfl k
theorem r_aloadN_13 {l0 l1 l2 l3 l4 l5 l6 l7 l8 l9 l10 l11 l12 : Option Value} {R : List (Option Value)} (hd : pm_i E pc .aload_n .aload 13 q) (k : pm_V E q (l0 :: l1 :: l2 :: l3 :: l4 :: l5 :: l6 :: l7 :: l8 :: l9 :: l10 :: l11 :: l12 :: some .null :: R) (.null :: st) h b F) : pm_V E pc (l0 :: l1 :: l2 :: l3 :: l4 :: l5 :: l6 :: l7 :: l8 :: l9 :: l10 :: l11 :: l12 :: some .null :: R) st h b F := r_aloadNG hd rfl k
theorem r_istore_13 {l0 l1 l2 l3 l4 l5 l6 l7 l8 l9 l10 l11 l12 : Option Value} {o : Option Value} {R : List (Option Value)} {x : Int32} (hd : pm_i E pc .istore_n .istore 13 q) (hi : 13 < pm_nL E) (hn : ∀ w, l12 = some w → w.category = 1) (k : pm_V E q (l0 :: l1 :: l2 :: l3 :: l4 :: l5 :: l6 :: l7 :: l8 :: l9 :: l10 :: l11 :: l12 :: some (.int x) :: R) st h b F) : pm_V E pc (l0 :: l1 :: l2 :: l3 :: l4 :: l5 :: l6 :: l7 :: l8 :: l9 :: l10 :: l11 :: l12 :: o :: R) (.int x :: st) h b F := r_istoreG hd hi (fun w hw => hn w (Option.some.inj hw)) k
theorem r_astore_13 {l0 l1 l2 l3 l4 l5 l6 l7 l8 l9 l10 l11 l12 : Option Value} {o : Option Value} {R : List (Option Value)} {x : Nat} (hd : pm_i E pc .astore_n .astore 13 q) (hi : 13 < pm_nL E) (hn : ∀ w, l12 = some w → w.category = 1) (k : pm_V E q (l0 :: l1 :: l2 :: l3 :: l4 :: l5 :: l6 :: l7 :: l8 :: l9 :: l10 :: l11 :: l12 :: some (.ref x) :: R) st h b F) : pm_V E pc (l0 :: l1 :: l2 :: l3 :: l4 :: l5 :: l6 :: l7 :: l8 :: l9 :: l10 :: l11 :: l12 :: o :: R) (.ref x :: st) h b F := r_astoreG hd hi (fun w hw => hn w (Option.some.inj hw)) k
theorem r_astoreN_13 {l0 l1 l2 l3 l4 l5 l6 l7 l8 l9 l10 l11 l12 : Option Value} {o : Option Value} {R : List (Option Value)} (hd : pm_i E pc .astore_n .astore 13 q) (hi : 13 < pm_nL E) (hn : ∀ w, l12 = some w → w.category = 1) (k : pm_V E q (l0 :: l1 :: l2 :: l3 :: l4 :: l5 :: l6 :: l7 :: l8 :: l9 :: l10 :: l11 :: l12 :: some (.null) :: R) st h b F) : pm_V E pc (l0 :: l1 :: l2 :: l3 :: l4 :: l5 :: l6 :: l7 :: l8 :: l9 :: l10 :: l11 :: l12 :: o :: R) (.null :: st) h b F := r_astoreNG hd hi (fun w hw => hn w (Option.some.inj hw)) k
theorem r_lstore_13 {l0 l1 l2 l3 l4 l5 l6 l7 l8 l9 l10 l11 l12 : Option Value} {o o2 : Option Value} {R : List (Option Value)} {x : Int64} (hd : pm_i E pc .lstore_n .lstore 13 q) (hi : 14 < pm_nL E) (hn : ∀ w, l12 = some w → w.category = 1) (k : pm_V E q (l0 :: l1 :: l2 :: l3 :: l4 :: l5 :: l6 :: l7 :: l8 :: l9 :: l10 :: l11 :: l12 :: some (.long x) :: none :: R) st h b F) : pm_V E pc (l0 :: l1 :: l2 :: l3 :: l4 :: l5 :: l6 :: l7 :: l8 :: l9 :: l10 :: l11 :: l12 :: o :: o2 :: R) (.long x :: st) h b F := r_lstoreG hd hi (fun w hw => hn w (Option.some.inj hw)) k
theorem r_iinc_13 {l0 l1 l2 l3 l4 l5 l6 l7 l8 l9 l10 l11 l12 : Option Value} {R : List (Option Value)} {x n : Int32} (hd : pm_I E pc 13 n q) (hi : 13 < pm_nL E) (hn : ∀ w, l12 = some w → w.category = 1) (k : pm_V E q (l0 :: l1 :: l2 :: l3 :: l4 :: l5 :: l6 :: l7 :: l8 :: l9 :: l10 :: l11 :: l12 :: some (.int (x + n)) :: R) st h b F) : pm_V E pc (l0 :: l1 :: l2 :: l3 :: l4 :: l5 :: l6 :: l7 :: l8 :: l9 :: l10 :: l11 :: l12 :: some (.int x) :: R) st h b F := r_iincG hd rfl hi (fun w hw => hn w (Option.some.inj hw)) k
theorem r_iload_14 {l0 l1 l2 l3 l4 l5 l6 l7 l8 l9 l10 l11 l12 l13 : Option Value} {R : List (Option Value)} {x : Int32} (hd : pm_i E pc .iload_n .iload 14 q) (k : pm_V E q (l0 :: l1 :: l2 :: l3 :: l4 :: l5 :: l6 :: l7 :: l8 :: l9 :: l10 :: l11 :: l12 :: l13 :: some (.int x) :: R) (.int x :: st) h b F) : pm_V E pc (l0 :: l1 :: l2 :: l3 :: l4 :: l5 :: l6 :: l7 :: l8 :: l9 :: l10 :: l11 :: l12 :: l13 :: some (.int x) :: R) st h b F := r_iloadG hd rfl k
theorem r_lload_14 {l0 l1 l2 l3 l4 l5 l6 l7 l8 l9 l10 l11 l12 l13 : Option Value} {R : List (Option Value)} {x : Int64} (hd : pm_i E pc .lload_n .lload 14 q) (k : pm_V E q (l0 :: l1 :: l2 :: l3 :: l4 :: l5 :: l6 :: l7 :: l8 :: l9 :: l10 :: l11 :: l12 :: l13 :: some (.long x) :: R) (.long x :: st) h b F) : pm_V E pc (l0 :: l1 :: l2 :: l3 :: l4 :: l5 :: l6 :: l7 :: l8 :: l9 :: l10 :: l11 :: l12 :: l13 :: some (.long x) :: R) st h b F := r_lloadG hd rfl k
theorem r_aload_14 {l0 l1 l2 l3 l4 l5 l6 l7 l8 l9 l10 l11 l12 l13 : Option Value} {R : List (Option Value)} {x : Nat} (hd : pm_i E pc .aload_n .aload 14 q) (k : pm_V E q (l0 :: l1 :: l2 :: l3 :: l4 :: l5 :: l6 :: l7 :: l8 :: l9 :: l10 :: l11 :: l12 :: l13 :: some (.ref x) :: R) (.ref x :: st) h b F) : pm_V E pc (l0 :: l1 :: l2 :: l3 :: l4 :: l5 :: l6 :: l7 :: l8 :: l9 :: l10 :: l11 :: l12 :: l13 :: some (.ref x) :: R) st h b F := r_aloadG hd rfl k
theorem r_aloadN_14 {l0 l1 l2 l3 l4 l5 l6 l7 l8 l9 l10 l11 l12 l13 : Option Value} {R : List (Option Value)} (hd : pm_i E pc .aload_n .aload 14 q) (k : pm_V E q (l0 :: l1 :: l2 :: l3 :: l4 :: l5 :: l6 :: l7 :: l8 :: l9 :: l10 :: l11 :: l12 :: l13 :: some .null :: R) (.null :: st) h b F) : pm_V E pc (l0 :: l1 :: l2 :: l3 :: l4 :: l5 :: l6 :: l7 :: l8 :: l9 :: l10 :: l11 :: l12 :: l13 :: some .null :: R) st h b F := r_aloadNG hd rfl k
theorem r_istore_14 {l0 l1 l2 l3 l4 l5 l6 l7 l8 l9 l10 l11 l12 l13 : Option Value} {o : Option Value} {R : List (Option Value)} {x : Int32} (hd : pm_i E pc .istore_n .istore 14 q) (hi : 14 < pm_nL E) (hn : ∀ w, l13 = some w → w.category = 1) (k : pm_V E q (l0 :: l1 :: l2 :: l3 :: l4 :: l5 :: l6 :: l7 :: l8 :: l9 :: l10 :: l11 :: l12 :: l13 :: some (.int x) :: R) st h b F) : pm_V E pc (l0 :: l1 :: l2 :: l3 :: l4 :: l5 :: l6 :: l7 :: l8 :: l9 :: l10 :: l11 :: l12 :: l13 :: o :: R) (.int x :: st) h b F := r_istoreG hd hi (fun w hw => hn w (Option.some.inj hw)) k
theorem r_astore_14 {l0 l1 l2 l3 l4 l5 l6 l7 l8 l9 l10 l11 l12 l13 : Option Value} {o : Option Value} {R : List (Option Value)} {x : Nat} (hd : pm_i E pc .astore_n .astore 14 q) (hi : 14 < pm_nL E) (hn : ∀ w, l13 = some w → w.category = 1) (k : pm_V E q (l0 :: l1 :: l2 :: l3 :: l4 :: l5 :: l6 :: l7 :: l8 :: l9 :: l10 :: l11 :: l12 :: l13 :: some (.ref x) :: R) st h b F) : pm_V E pc (l0 :: l1 :: l2 :: l3 :: l4 :: l5 :: l6 :: l7 :: l8 :: l9 :: l10 :: l11 :: l12 :: l13 :: o :: R) (.ref x :: st) h b F := r_astoreG hd hi (fun w hw => hn w (Option.some.inj hw)) k
theorem r_astoreN_14 {l0 l1 l2 l3 l4 l5 l6 l7 l8 l9 l10 l11 l12 l13 : Option Value} {o : Option Value} {R : List (Option Value)} (hd : pm_i E pc .astore_n .astore 14 q) (hi : 14 < pm_nL E) (hn : ∀ w, l13 = some w → w.category = 1) (k : pm_V E q (l0 :: l1 :: l2 :: l3 :: l4 :: l5 :: l6 :: l7 :: l8 :: l9 :: l10 :: l11 :: l12 :: l13 :: some (.null) :: R) st h b F) : pm_V E pc (l0 :: l1 :: l2 :: l3 :: l4 :: l5 :: l6 :: l7 :: l8 :: l9 :: l10 :: l11 :: l12 :: l13 :: o :: R) (.null :: st) h b F := r_astoreNG hd hi (fun w hw => hn w (Option.some.inj hw)) k
theorem r_lstore_14 {l0 l1 l2 l3 l4 l5 l6 l7 l8 l9 l10 l11 l12 l13 : Option Value} {o o2 : Option Value} {R : List (Option Value)} {x : Int64} (hd : pm_i E pc .lstore_n .lstore 14 q) (hi : 15 < pm_nL E) (hn : ∀ w, l13 = some w → w.category = 1) (k : pm_V E q (l0 :: l1 :: l2 :: l3 :: l4 :: l5 :: l6 :: l7 :: l8 :: l9 :: l10 :: l11 :: l12 :: l13 :: some (.long x) :: none :: R) st h b F) : pm_V E pc (l0 :: l1 :: l2 :: l3 :: l4 :: l5 :: l6 :: l7 :: l8 :: l9 :: l10 :: l11 :: l12 :: l13 :: o :: o2 :: R) (.long x :: st) h b F := r_lstoreG hd hi (fun w hw => hn w (Option.some.inj hw)) k
theorem r_iinc_14 {l0 l1 l2 l3 l4 l5 l6 l7 l8 l9 l10 l11 l12 l13 : Option Value} {R : List (Option Value)} {x n : Int32} (hd : pm_I E pc 14 n q) (hi : 14 < pm_nL E) (hn : ∀ w, l13 = some w → w.category = 1) (k : pm_V E q (l0 :: l1 :: l2 :: l3 :: l4 :: l5 :: l6 :: l7 :: l8 :: l9 :: l10 :: l11 :: l12 :: l13 :: some (.int (x + n)) :: R) st h b F) : pm_V E pc (l0 :: l1 :: l2 :: l3 :: l4 :: l5 :: l6 :: l7 :: l8 :: l9 :: l10 :: l11 :: l12 :: l13 :: some (.int x) :: R) st h b F := r_iincG hd rfl hi (fun w hw => hn w (Option.some.inj hw)) k
theorem r_iload_15 {l0 l1 l2 l3 l4 l5 l6 l7 l8 l9 l10 l11 l12 l13 l14 : Option Value} {R : List (Option Value)} {x : Int32} (hd : pm_i E pc .iload_n .iload 15 q) (k : pm_V E q (l0 :: l1 :: l2 :: l3 :: l4 :: l5 :: l6 :: l7 :: l8 :: l9 :: l10 :: l11 :: l12 :: l13 :: l14 :: some (.int x) :: R) (.int x :: st) h b F) : pm_V E pc (l0 :: l1 :: l2 :: l3 :: l4 :: l5 :: l6 :: l7 :: l8 :: l9 :: l10 :: l11 :: l12 :: l13 :: l14 :: some (.int x) :: R) st h b F := r_iloadG hd rfl k
theorem r_lload_15 {l0 l1 l2 l3 l4 l5 l6 l7 l8 l9 l10 l11 l12 l13 l14 : Option Value} {R : List (Option Value)} {x : Int64} (hd : pm_i E pc .lload_n .lload 15 q) (k : pm_V E q (l0 :: l1 :: l2 :: l3 :: l4 :: l5 :: l6 :: l7 :: l8 :: l9 :: l10 :: l11 :: l12 :: l13 :: l14 :: some (.long x) :: R) (.long x :: st) h b F) : pm_V E pc (l0 :: l1 :: l2 :: l3 :: l4 :: l5 :: l6 :: l7 :: l8 :: l9 :: l10 :: l11 :: l12 :: l13 :: l14 :: some (.long x) :: R) st h b F := r_lloadG hd rfl k
theorem r_aload_15 {l0 l1 l2 l3 l4 l5 l6 l7 l8 l9 l10 l11 l12 l13 l14 : Option Value} {R : List (Option Value)} {x : Nat} (hd : pm_i E pc .aload_n .aload 15 q) (k : pm_V E q (l0 :: l1 :: l2 :: l3 :: l4 :: l5 :: l6 :: l7 :: l8 :: l9 :: l10 :: l11 :: l12 :: l13 :: l14 :: some (.ref x) :: R) (.ref x :: st) h b F) : pm_V E pc (l0 :: l1 :: l2 :: l3 :: l4 :: l5 :: l6 :: l7 :: l8 :: l9 :: l10 :: l11 :: l12 :: l13 :: l14 :: some (.ref x) :: R) st h b F := r_aloadG hd rfl k
theorem r_aloadN_15 {l0 l1 l2 l3 l4 l5 l6 l7 l8 l9 l10 l11 l12 l13 l14 : Option Value} {R : List (Option Value)} (hd : pm_i E pc .aload_n .aload 15 q) (k : pm_V E q (l0 :: l1 :: l2 :: l3 :: l4 :: l5 :: l6 :: l7 :: l8 :: l9 :: l10 :: l11 :: l12 :: l13 :: l14 :: some .null :: R) (.null :: st) h b F) : pm_V E pc (l0 :: l1 :: l2 :: l3 :: l4 :: l5 :: l6 :: l7 :: l8 :: l9 :: l10 :: l11 :: l12 :: l13 :: l14 :: some .null :: R) st h b F := r_aloadNG hd rfl k
theorem r_istore_15 {l0 l1 l2 l3 l4 l5 l6 l7 l8 l9 l10 l11 l12 l13 l14 : Option Value} {o : Option Value} {R : List (Option Value)} {x : Int32} (hd : pm_i E pc .istore_n .istore 15 q) (hi : 15 < pm_nL E) (hn : ∀ w, l14 = some w → w.category = 1) (k : pm_V E q (l0 :: l1 :: l2 :: l3 :: l4 :: l5 :: l6 :: l7 :: l8 :: l9 :: l10 :: l11 :: l12 :: l13 :: l14 :: some (.int x) :: R) st h b F) : pm_V E pc (l0 :: l1 :: l2 :: l3 :: l4 :: l5 :: l6 :: l7 :: l8 :: l9 :: l10 :: l11 :: l12 :: l13 :: l14 :: o :: R) (.int x :: st) h b F := r_istoreG hd hi (fun w hw => hn w (Option.some.inj hw)) k
theorem r_astore_15 {l0 l1 l2 l3 l4 l5 l6 l7 l8 l9 l10 l11 l12 l13 l14 : Option Value} {o : Option Value} {R : List (Option Value)} {x : Nat} (hd : pm_i E pc .astore_n .astore 15 q) (hi : 15 < pm_nL E) (hn : ∀ w, l14 = some w → w.category = 1) (k : pm_V E q (l0 :: l1 :: l2 :: l3 :: l4 :: l5 :: l6 :: l7 :: l8 :: l9 :: l10 :: l11 :: l12 :: l13 :: l14 :: some (.ref x) :: R) st h b F) : pm_V E pc (l0 :: l1 :: l2 :: l3 :: l4 :: l5 :: l6 :: l7 :: l8 :: l9 :: l10 :: l11 :: l12 :: l13 :: l14 :: o :: R) (.ref x :: st) h b F := r_astoreG hd hi (fun w hw => hn w (Option.some.inj hw)) k
theorem r_astoreN_15 {l0 l1 l2 l3 l4 l5 l6 l7 l8 l9 l10 l11 l12 l13 l14 : Option Value} {o : Option Value} {R : List (Option Value)} (hd : pm_i E pc .astore_n .astore 15 q) (hi : 15 < pm_nL E) (hn : ∀ w, l14 = some w → w.category = 1) (k : pm_V E q (l0 :: l1 :: l2 :: l3 :: l4 :: l5 :: l6 :: l7 :: l8 :: l9 :: l10 :: l11 :: l12 :: l13 :: l14 :: some (.null) :: R) st h b F) : pm_V E pc (l0 :: l1 :: l2 :: l3 :: l4 :: l5 :: l6 :: l7 :: l8 :: l9 :: l10 :: l11 :: l12 :: l13 :: l14 :: o :: R) (.null :: st) h b F := r_astoreNG hd hi (fun w hw => hn w (Option.some.inj hw)) k
theorem r_lstore_15 {l0 l1 l2 l3 l4 l5 l6 l7 l8 l9 l10 l11 l12 l13 l14 : Option Value} {o o2 : Option Value} {R : List (Option Value)} {x : Int64} (hd : pm_i E pc .lstore_n .lstore 15 q) (hi : 16 < pm_nL E) (hn : ∀ w, l14 = some w → w.category = 1) (k : pm_V E q (l0 :: l1 :: l2 :: l3 :: l4 :: l5 :: l6 :: l7 :: l8 :: l9 :: l10 :: l11 :: l12 :: l13 :: l14 :: some (.long x) :: none :: R) st h b F) : pm_V E pc (l0 :: l1 :: l2 :: l3 :: l4 :: l5 :: l6 :: l7 :: l8 :: l9 :: l10 :: l11 :: l12 :: l13 :: l14 :: o :: o2 :: R) (.long x :: st) h b F := r_lstoreG hd hi (fun w hw => hn w (Option.some.inj hw)) k
theorem r_iinc_15 {l0 l1 l2 l3 l4 l5 l6 l7 l8 l9 l10 l11 l12 l13 l14 : Option Value} {R : List (Option Value)} {x n : Int32} (hd : pm_I E pc 15 n q) (hi : 15 < pm_nL E) (hn : ∀ w, l14 = some w → w.category = 1) (k : pm_V E q (l0 :: l1 :: l2 :: l3 :: l4 :: l5 :: l6 :: l7 :: l8 :: l9 :: l10 :: l11 :: l12 :: l13 :: l14 :: some (.int (x + n)) :: R) st h b F) : pm_V E pc (l0 :: l1 :: l2 :: l3 :: l4 :: l5 :: l6 :: l7 :: l8 :: l9 :: l10 :: l11 :: l12 :: l13 :: l14 :: some (.int x) :: R) st h b F := r_iincG hd rfl hi (fun w hw => hn w (Option.some.inj hw)) k
theorem r_iadd {x y : Int32} (hd : pm_D E pc 1 .iadd q) (k : pm_V E q L (.int (x + y) :: st) h b F) : pm_V E pc L (.int y :: .int x :: st) h b F := by
  intro G p l e s m args below meth c H locs ls cells slots Q X hR hl hL hc hs hE
  obtain ⟨d, rfl⟩ := hd
  exact lv_iadd X.1 X.2.1 d (k G p l e s m args below meth c H locs ls cells slots Q X hR hl hL hc hs hE)
theorem r_isub {x y : Int32} (hd : pm_D E pc 1 .isub q) (k : pm_V E q L (.int (x - y) :: st) h b F) : pm_V E pc L (.int y :: .int x :: st) h b F := by
  intro G p l e s m args below meth c H locs ls cells slots Q X hR hl hL hc hs hE
  obtain ⟨d, rfl⟩ := hd
  exact lv_isub X.1 X.2.1 d (k G p l e s m args below meth c H locs ls cells slots Q X hR hl hL hc hs hE)
theorem r_imul {x y : Int32} (hd : pm_D E pc 1 .imul q) (k : pm_V E q L (.int (x * y) :: st) h b F) : pm_V E pc L (.int y :: .int x :: st) h b F := by
  intro G p l e s m args below meth c H locs ls cells slots Q X hR hl hL hc hs hE
  obtain ⟨d, rfl⟩ := hd
  exact lv_imul X.1 X.2.1 d (k G p l e s m args below meth c H locs ls cells slots Q X hR hl hL hc hs hE)
theorem r_iand {x y : Int32} (hd : pm_D E pc 1 .iand q) (k : pm_V E q L (.int (x &&& y) :: st) h b F) : pm_V E pc L (.int y :: .int x :: st) h b F := by
  intro G p l e s m args below meth c H locs ls cells slots Q X hR hl hL hc hs hE
  obtain ⟨d, rfl⟩ := hd
  exact lv_iand X.1 X.2.1 d (k G p l e s m args below meth c H locs ls cells slots Q X hR hl hL hc hs hE)
theorem r_ior {x y : Int32} (hd : pm_D E pc 1 .ior q) (k : pm_V E q L (.int (x ||| y) :: st) h b F) : pm_V E pc L (.int y :: .int x :: st) h b F := by
  intro G p l e s m args below meth c H locs ls cells slots Q X hR hl hL hc hs hE
  obtain ⟨d, rfl⟩ := hd
  exact lv_ior X.1 X.2.1 d (k G p l e s m args below meth c H locs ls cells slots Q X hR hl hL hc hs hE)
theorem r_ixor {x y : Int32} (hd : pm_D E pc 1 .ixor q) (k : pm_V E q L (.int (x ^^^ y) :: st) h b F) : pm_V E pc L (.int y :: .int x :: st) h b F := by
  intro G p l e s m args below meth c H locs ls cells slots Q X hR hl hL hc hs hE
  obtain ⟨d, rfl⟩ := hd
  exact lv_ixor X.1 X.2.1 d (k G p l e s m args below meth c H locs ls cells slots Q X hR hl hL hc hs hE)
theorem r_ladd {x y : Int64} (hd : pm_D E pc 1 .ladd q) (k : pm_V E q L (.long (x + y) :: st) h b F) : pm_V E pc L (.long y :: .long x :: st) h b F := by
  intro G p l e s m args below meth c H locs ls cells slots Q X hR hl hL hc hs hE
  obtain ⟨d, rfl⟩ := hd
  exact lv_ladd X.1 X.2.1 d (k G p l e s m args below meth c H locs ls cells slots Q X hR hl hL hc hs hE)
theorem r_lsub {x y : Int64} (hd : pm_D E pc 1 .lsub q) (k : pm_V E q L (.long (x - y) :: st) h b F) : pm_V E pc L (.long y :: .long x :: st) h b F := by
  intro G p l e s m args below meth c H locs ls cells slots Q X hR hl hL hc hs hE
  obtain ⟨d, rfl⟩ := hd
  exact lv_lsub X.1 X.2.1 d (k G p l e s m args below meth c H locs ls cells slots Q X hR hl hL hc hs hE)
theorem r_lmul {x y : Int64} (hd : pm_D E pc 1 .lmul q) (k : pm_V E q L (.long (x * y) :: st) h b F) : pm_V E pc L (.long y :: .long x :: st) h b F := by
  intro G p l e s m args below meth c H locs ls cells slots Q X hR hl hL hc hs hE
  obtain ⟨d, rfl⟩ := hd
  exact lv_lmul X.1 X.2.1 d (k G p l e s m args below meth c H locs ls cells slots Q X hR hl hL hc hs hE)
theorem r_land {x y : Int64} (hd : pm_D E pc 1 .land q) (k : pm_V E q L (.long (x &&& y) :: st) h b F) : pm_V E pc L (.long y :: .long x :: st) h b F := by
  intro G p l e s m args below meth c H locs ls cells slots Q X hR hl hL hc hs hE
  obtain ⟨d, rfl⟩ := hd
  exact lv_land X.1 X.2.1 d (k G p l e s m args below meth c H locs ls cells slots Q X hR hl hL hc hs hE)
theorem r_lor {x y : Int64} (hd : pm_D E pc 1 .lor q) (k : pm_V E q L (.long (x ||| y) :: st) h b F) : pm_V E pc L (.long y :: .long x :: st) h b F := by
  intro G p l e s m args below meth c H locs ls cells slots Q X hR hl hL hc hs hE
  obtain ⟨d, rfl⟩ := hd
  exact lv_lor X.1 X.2.1 d (k G p l e s m args below meth c H locs ls cells slots Q X hR hl hL hc hs hE)
theorem r_lxor {x y : Int64} (hd : pm_D E pc 1 .lxor q) (k : pm_V E q L (.long (x ^^^ y) :: st) h b F) : pm_V E pc L (.long y :: .long x :: st) h b F := by
  intro G p l e s m args below meth c H locs ls cells slots Q X hR hl hL hc hs hE
  obtain ⟨d, rfl⟩ := hd
  exact lv_lxor X.1 X.2.1 d (k G p l e s m args below meth c H locs ls cells slots Q X hR hl hL hc hs hE)
theorem r_idiv {x y : Int32} (hd : pm_D E pc 1 .idiv q) (hne : ¬ y = 0) (k : pm_V E q L (.int (x / y) :: st) h b F) : pm_V E pc L (.int y :: .int x :: st) h b F := by
  intro G p l e s m args below meth c H locs ls cells slots Q X hR hl hL hc hs hE
  obtain ⟨d, rfl⟩ := hd
  exact lv_idiv X.1 X.2.1 d hne (k G p l e s m args below meth c H locs ls cells slots Q X hR hl hL hc hs hE)
theorem r_irem {x y : Int32} (hd : pm_D E pc 1 .irem q) (hne : ¬ y = 0) (k : pm_V E q L (.int (x - x / y * y) :: st) h b F) : pm_V E pc L (.int y :: .int x :: st) h b F := by
  intro G p l e s m args below meth c H locs ls cells slots Q X hR hl hL hc hs hE
  obtain ⟨d, rfl⟩ := hd
  exact lv_irem X.1 X.2.1 d hne (k G p l e s m args below meth c H locs ls cells slots Q X hR hl hL hc hs hE)
theorem r_ldiv {x y : Int64} (hd : pm_D E pc 1 .ldiv q) (hne : ¬ y = 0) (k : pm_V E q L (.long (x / y) :: st) h b F) : pm_V E pc L (.long y :: .long x :: st) h b F := by
  intro G p l e s m args below meth c H locs ls cells slots Q X hR hl hL hc hs hE
  obtain ⟨d, rfl⟩ := hd
  exact lv_ldiv X.1 X.2.1 d hne (k G p l e s m args below meth c H locs ls cells slots Q X hR hl hL hc hs hE)
theorem r_lrem {x y : Int64} (hd : pm_D E pc 1 .lrem q) (hne : ¬ y = 0) (k : pm_V E q L (.long (x - x / y * y) :: st) h b F) : pm_V E pc L (.long y :: .long x :: st) h b F := by
  intro G p l e s m args below meth c H locs ls cells slots Q X hR hl hL hc hs hE
  obtain ⟨d, rfl⟩ := hd
  exact lv_lrem X.1 X.2.1 d hne (k G p l e s m args below meth c H locs ls cells slots Q X hR hl hL hc hs hE)
theorem r_ineg {x : Int32} (hd : pm_D E pc 1 .ineg q) (k : pm_V E q L (.int (-x) :: st) h b F) : pm_V E pc L (.int x :: st) h b F := by
  intro G p l e s m args below meth c H locs ls cells slots Q X hR hl hL hc hs hE
  obtain ⟨d, rfl⟩ := hd
  exact lv_ineg X.1 X.2.1 d (k G p l e s m args below meth c H locs ls cells slots Q X hR hl hL hc hs hE)
theorem r_ishl {x y : Int32} (hd : pm_D E pc 1 .ishl q) (k : pm_V E q L (.int (x <<< (y &&& 31)) :: st) h b F) : pm_V E pc L (.int y :: .int x :: st) h b F := by
  intro G p l e s m args below meth c H locs ls cells slots Q X hR hl hL hc hs hE
  obtain ⟨d, rfl⟩ := hd
  exact lv_ishl X.1 X.2.1 d (k G p l e s m args below meth c H locs ls cells slots Q X hR hl hL hc hs hE)
theorem r_ishr {x y : Int32} (hd : pm_D E pc 1 .ishr q) (k : pm_V E q L (.int (x >>> (y &&& 31)) :: st) h b F) : pm_V E pc L (.int y :: .int x :: st) h b F := by
  intro G p l e s m args below meth c H locs ls cells slots Q X hR hl hL hc hs hE
  obtain ⟨d, rfl⟩ := hd
  exact lv_ishr X.1 X.2.1 d (k G p l e s m args below meth c H locs ls cells slots Q X hR hl hL hc hs hE)
theorem r_i2l {x : Int32} (hd : pm_D E pc 1 .i2l q) (k : pm_V E q L (.long x.toInt64 :: st) h b F) : pm_V E pc L (.int x :: st) h b F := by
  intro G p l e s m args below meth c H locs ls cells slots Q X hR hl hL hc hs hE
  obtain ⟨d, rfl⟩ := hd
  exact lv_i2l X.1 X.2.1 d rfl (k G p l e s m args below meth c H locs ls cells slots Q X hR hl hL hc hs hE)
theorem r_l2i {x : Int64} (hd : pm_D E pc 1 .l2i q) (k : pm_V E q L (.int x.toInt32 :: st) h b F) : pm_V E pc L (.long x :: st) h b F := by
  intro G p l e s m args below meth c H locs ls cells slots Q X hR hl hL hc hs hE
  obtain ⟨d, rfl⟩ := hd
  exact lv_l2i X.1 X.2.1 d rfl (k G p l e s m args below meth c H locs ls cells slots Q X hR hl hL hc hs hE)
theorem r_i2b {x : Int32} (hd : pm_D E pc 1 .i2b q) (k : pm_V E q L (.int x.toInt8.toInt32 :: st) h b F) : pm_V E pc L (.int x :: st) h b F := by
  intro G p l e s m args below meth c H locs ls cells slots Q X hR hl hL hc hs hE
  obtain ⟨d, rfl⟩ := hd
  exact lv_i2b X.1 X.2.1 d rfl (k G p l e s m args below meth c H locs ls cells slots Q X hR hl hL hc hs hE)
theorem r_lushr {x : Int64} {y : Int32} (hd : pm_D E pc 1 .lushr q) (k : pm_V E q L (.long (x.toUInt64 >>> (y.toInt64.toUInt64 &&& Int64.toUInt64 63)).toInt64 :: st) h b F) : pm_V E pc L (.int y :: .long x :: st) h b F := by
  intro G p l e s m args below meth c H locs ls cells slots Q X hR hl hL hc hs hE
  obtain ⟨d, rfl⟩ := hd
  exact lv_lushr X.1 X.2.1 d rfl (k G p l e s m args below meth c H locs ls cells slots Q X hR hl hL hc hs hE)
theorem r_lshl {x : Int64} {y : Int32} (hd : pm_D E pc 1 .lshl q) (k : pm_V E q L (.long (x <<< (y.toInt64 &&& 63)) :: st) h b F) : pm_V E pc L (.int y :: .long x :: st) h b F := by
  intro G p l e s m args below meth c H locs ls cells slots Q X hR hl hL hc hs hE
  obtain ⟨d, rfl⟩ := hd
  exact lv_lshl X.1 X.2.1 d rfl (k G p l e s m args below meth c H locs ls cells slots Q X hR hl hL hc hs hE)
theorem r_lshr {x : Int64} {y : Int32} (hd : pm_D E pc 1 .lshr q) (k : pm_V E q L (.long (x >>> (y.toInt64 &&& 63)) :: st) h b F) : pm_V E pc L (.int y :: .long x :: st) h b F := by
  intro G p l e s m args below meth c H locs ls cells slots Q X hR hl hL hc hs hE
  obtain ⟨d, rfl⟩ := hd
  exact lv_lshr X.1 X.2.1 d rfl (k G p l e s m args below meth c H locs ls cells slots Q X hR hl hL hc hs hE)
theorem r_lcmp {x y : Int64} (hd : pm_D E pc 1 .lcmp q) (k : pm_V E q L (.int (lg_cmp x y) :: st) h b F) : pm_V E pc L (.long y :: .long x :: st) h b F := by
  intro G p l e s m args below meth c H locs ls cells slots Q X hR hl hL hc hs hE
  obtain ⟨d, rfl⟩ := hd
  exact W.lcmp X.1 X.2.1 d (k G p l e s m args below meth c H locs ls cells slots Q X hR hl hL hc hs hE)
theorem r_dup {v : Value} (hd : pm_D E pc 1 .dup q) (hv : v.category = 1) (k : pm_V E q L (v :: v :: st) h b F) : pm_V E pc L (v :: st) h b F := by
  intro G p l e s m args below meth c H locs ls cells slots Q X hR hl hL hc hs hE
  obtain ⟨d, rfl⟩ := hd
  exact lv_dup X.1 X.2.1 d (by rw [pm_rv_cat]; exact hv) (k G p l e s m args below meth c H locs ls cells slots Q X hR hl hL hc hs hE)
theorem r_dup2 {v u : Value} (hd : pm_D E pc 1 .dup2 q) (hv : v.category = 1) (hu : u.category = 1) (k : pm_V E q L (v :: u :: v :: u :: st) h b F) : pm_V E pc L (v :: u :: st) h b F := by
  intro G p l e s m args below meth c H locs ls cells slots Q X hR hl hL hc hs hE
  obtain ⟨d, rfl⟩ := hd
  exact lv_dup2_11 X.1 X.2.1 d (by rw [pm_rv_cat]; exact hv) (by rw [pm_rv_cat]; exact hu) (k G p l e s m args below meth c H locs ls cells slots Q X hR hl hL hc hs hE)
theorem r_dup2l {v : Value} (hd : pm_D E pc 1 .dup2 q) (hv : v.category = 2) (k : pm_V E q L (v :: v :: st) h b F) : pm_V E pc L (v :: st) h b F := by
  intro G p l e s m args below meth c H locs ls cells slots Q X hR hl hL hc hs hE
  obtain ⟨d, rfl⟩ := hd
  exact lv_dup2_2 X.1 X.2.1 d (by rw [pm_rv_cat]; exact hv) (k G p l e s m args below meth c H locs ls cells slots Q X hR hl hL hc hs hE)
theorem r_if_eq {x : Int32} {t : Nat} (hd : pm_B E pc (fun z => .ifCond .eq z) t q) (kt : x = 0 → pm_V E t L st h b F) (kf : ¬ x = 0 → pm_V E q L st h b F) : pm_V E pc L (.int x :: st) h b F := by
  intro G p l e s m args below meth c H locs ls cells slots Q X hR hl hL hc hs hE
  obtain ⟨off, d, ht, rfl⟩ := hd
  exact lv_if_eq X.1 X.2.1 d ht (fun z => kt z G p l e s m args below meth c H locs ls cells slots Q X hR hl hL hc hs hE) (fun z => kf z G p l e s m args below meth c H locs ls cells slots Q X hR hl hL hc hs hE)
theorem r_icmp_eq {x y : Int32} {t : Nat} (hd : pm_B E pc (fun z => .if_icmp .eq z) t q) (kt : x = y → pm_V E t L st h b F) (kf : ¬ x = y → pm_V E q L st h b F) : pm_V E pc L (.int y :: .int x :: st) h b F := by
  intro G p l e s m args below meth c H locs ls cells slots Q X hR hl hL hc hs hE
  obtain ⟨off, d, ht, rfl⟩ := hd
  exact lv_icmp_eq X.1 X.2.1 d ht (fun z => kt z G p l e s m args below meth c H locs ls cells slots Q X hR hl hL hc hs hE) (fun z => kf z G p l e s m args below meth c H locs ls cells slots Q X hR hl hL hc hs hE)
theorem r_if_ne {x : Int32} {t : Nat} (hd : pm_B E pc (fun z => .ifCond .ne z) t q) (kt : ¬ x = 0 → pm_V E t L st h b F) (kf : x = 0 → pm_V E q L st h b F) : pm_V E pc L (.int x :: st) h b F := by
  intro G p l e s m args below meth c H locs ls cells slots Q X hR hl hL hc hs hE
  obtain ⟨off, d, ht, rfl⟩ := hd
  exact lv_if_ne X.1 X.2.1 d ht (fun z => kt z G p l e s m args below meth c H locs ls cells slots Q X hR hl hL hc hs hE) (fun z => kf z G p l e s m args below meth c H locs ls cells slots Q X hR hl hL hc hs hE)
theorem r_icmp_ne {x y : Int32} {t : Nat} (hd : pm_B E pc (fun z => .if_icmp .ne z) t q) (kt : ¬ x = y → pm_V E t L st h b F) (kf : x = y → pm_V E q L st h b F) : pm_V E pc L (.int y :: .int x :: st) h b F := by
  intro G p l e s m args below meth c H locs ls cells slots Q X hR hl hL hc hs hE
  obtain ⟨off, d, ht, rfl⟩ := hd
  exact lv_icmp_ne X.1 X.2.1 d ht (fun z => kt z G p l e s m args below meth c H locs ls cells slots Q X hR hl hL hc hs hE) (fun z => kf z G p l e s m args below meth c H locs ls cells slots Q X hR hl hL hc hs hE)
theorem r_if_lt {x : Int32} {t : Nat} (hd : pm_B E pc (fun z => .ifCond .lt z) t q) (kt : x < 0 → pm_V E t L st h b F) (kf : ¬ x < 0 → pm_V E q L st h b F) : pm_V E pc L (.int x :: st) h b F := by
  intro G p l e s m args below meth c H locs ls cells slots Q X hR hl hL hc hs hE
  obtain ⟨off, d, ht, rfl⟩ := hd
  exact lv_if_lt X.1 X.2.1 d ht (fun z => kt z G p l e s m args below meth c H locs ls cells slots Q X hR hl hL hc hs hE) (fun z => kf z G p l e s m args below meth c H locs ls cells slots Q X hR hl hL hc hs hE)
theorem r_icmp_lt {x y : Int32} {t : Nat} (hd : pm_B E pc (fun z => .if_icmp .lt z) t q) (kt : x < y → pm_V E t L st h b F) (kf : ¬ x < y → pm_V E q L st h b F) : pm_V E pc L (.int y :: .int x :: st) h b F := by
  intro G p l e s m args below meth c H locs ls cells slots Q X hR hl hL hc hs hE
  obtain ⟨off, d, ht, rfl⟩ := hd
  exact lv_icmp_lt X.1 X.2.1 d ht (fun z => kt z G p l e s m args below meth c H locs ls cells slots Q X hR hl hL hc hs hE) (fun z => kf z G p l e s m args below meth c H locs ls cells slots Q X hR hl hL hc hs hE)
theorem r_if_ge {x : Int32} {t : Nat} (hd : pm_B E pc (fun z => .ifCond .ge z) t q) (kt : 0 ≤ x → pm_V E t L st h b F) (kf : ¬ 0 ≤ x → pm_V E q L st h b F) : pm_V E pc L (.int x :: st) h b F := by
  intro G p l e s m args below meth c H locs ls cells slots Q X hR hl hL hc hs hE
  obtain ⟨off, d, ht, rfl⟩ := hd
  exact lv_if_ge X.1 X.2.1 d ht (fun z => kt z G p l e s m args below meth c H locs ls cells slots Q X hR hl hL hc hs hE) (fun z => kf z G p l e s m args below meth c H locs ls cells slots Q X hR hl hL hc hs hE)
theorem r_icmp_ge {x y : Int32} {t : Nat} (hd : pm_B E pc (fun z => .if_icmp .ge z) t q) (kt : y ≤ x → pm_V E t L st h b F) (kf : ¬ y ≤ x → pm_V E q L st h b F) : pm_V E pc L (.int y :: .int x :: st) h b F := by
  intro G p l e s m args below meth c H locs ls cells slots Q X hR hl hL hc hs hE
  obtain ⟨off, d, ht, rfl⟩ := hd
  exact lv_icmp_ge X.1 X.2.1 d ht (fun z => kt z G p l e s m args below meth c H locs ls cells slots Q X hR hl hL hc hs hE) (fun z => kf z G p l e s m args below meth c H locs ls cells slots Q X hR hl hL hc hs hE)
theorem r_if_gt {x : Int32} {t : Nat} (hd : pm_B E pc (fun z => .ifCond .gt z) t q) (kt : 0 < x → pm_V E t L st h b F) (kf : ¬ 0 < x → pm_V E q L st h b F) : pm_V E pc L (.int x :: st) h b F := by
  intro G p l e s m args below meth c H locs ls cells slots Q X hR hl hL hc hs hE
  obtain ⟨off, d, ht, rfl⟩ := hd
  exact lv_if_gt X.1 X.2.1 d ht (fun z => kt z G p l e s m args below meth c H locs ls cells slots Q X hR hl hL hc hs hE) (fun z => kf z G p l e s m args below meth c H locs ls cells slots Q X hR hl hL hc hs hE)
theorem r_icmp_gt {x y : Int32} {t : Nat} (hd : pm_B E pc (fun z => .if_icmp .gt z) t q) (kt : y < x → pm_V E t L st h b F) (kf : ¬ y < x → pm_V E q L st h b F) : pm_V E pc L (.int y :: .int x :: st) h b F := by
  intro G p l e s m args below meth c H locs ls cells slots Q X hR hl hL hc hs hE
  obtain ⟨off, d, ht, rfl⟩ := hd
  exact lv_icmp_gt X.1 X.2.1 d ht (fun z => kt z G p l e s m args below meth c H locs ls cells slots Q X hR hl hL hc hs hE) (fun z => kf z G p l e s m args below meth c H locs ls cells slots Q X hR hl hL hc hs hE)
theorem r_if_le {x : Int32} {t : Nat} (hd : pm_B E pc (fun z => .ifCond .le z) t q) (kt : x ≤ 0 → pm_V E t L st h b F) (kf : ¬ x ≤ 0 → pm_V E q L st h b F) : pm_V E pc L (.int x :: st) h b F := by
  intro G p l e s m args below meth c H locs ls cells slots Q X hR hl hL hc hs hE
  obtain ⟨off, d, ht, rfl⟩ := hd
  exact lv_if_le X.1 X.2.1 d ht (fun z => kt z G p l e s m args below meth c H locs ls cells slots Q X hR hl hL hc hs hE) (fun z => kf z G p l e s m args below meth c H locs ls cells slots Q X hR hl hL hc hs hE)
theorem r_icmp_le {x y : Int32} {t : Nat} (hd : pm_B E pc (fun z => .if_icmp .le z) t q) (kt : x ≤ y → pm_V E t L st h b F) (kf : ¬ x ≤ y → pm_V E q L st h b F) : pm_V E pc L (.int y :: .int x :: st) h b F := by
  intro G p l e s m args below meth c H locs ls cells slots Q X hR hl hL hc hs hE
  obtain ⟨off, d, ht, rfl⟩ := hd
  exact lv_icmp_le X.1 X.2.1 d ht (fun z => kt z G p l e s m args below meth c H locs ls cells slots Q X hR hl hL hc hs hE) (fun z => kf z G p l e s m args below meth c H locs ls cells slots Q X hR hl hL hc hs hE)
theorem r_goto {t : Nat} (hd : pm_B E pc (fun z => .goto z) t q) (k : pm_V E t L st h b F) : pm_V E pc L st h b F := by
  intro G p l e s m args below meth c H locs ls cells slots Q X hR hl hL hc hs hE
  obtain ⟨off, d, ht, rfl⟩ := hd
  exact lv_goto X.1 X.2.1 d ht (k G p l e s m args below meth c H locs ls cells slots Q X hR hl hL hc hs hE)
theorem r_ifnull {t x : Nat} (hd : pm_B E pc (fun z => .ifnull z) t q) (k : pm_V E q L st h b F) : pm_V E pc L (.ref x :: st) h b F := by
  intro G p l e s m args below meth c H locs ls cells slots Q X hR hl hL hc hs hE
  obtain ⟨off, d, ht, rfl⟩ := hd
  exact lv_ifnull X.1 X.2.1 d (k G p l e s m args below meth c H locs ls cells slots Q X hR hl hL hc hs hE)
theorem r_ifnullN {t : Nat} (hd : pm_B E pc (fun z => .ifnull z) t q) (k : pm_V E t L st h b F) : pm_V E pc L (.null :: st) h b F := by
  intro G p l e s m args below meth c H locs ls cells slots Q X hR hl hL hc hs hE
  obtain ⟨off, d, ht, rfl⟩ := hd
  exact lv_ifnullN X.1 X.2.1 d ht (k G p l e s m args below meth c H locs ls cells slots Q X hR hl hL hc hs hE)
theorem r_ifnonnull {t x : Nat} (hd : pm_B E pc (fun z => .ifnonnull z) t q) (k : pm_V E t L st h b F) : pm_V E pc L (.ref x :: st) h b F := by
  intro G p l e s m args below meth c H locs ls cells slots Q X hR hl hL hc hs hE
  obtain ⟨off, d, ht, rfl⟩ := hd
  exact lv_ifnonnull X.1 X.2.1 d ht (k G p l e s m args below meth c H locs ls cells slots Q X hR hl hL hc hs hE)
theorem r_ifnonnullN {t : Nat} (hd : pm_B E pc (fun z => .ifnonnull z) t q) (k : pm_V E q L st h b F) : pm_V E pc L (.null :: st) h b F := by
  intro G p l e s m args below meth c H locs ls cells slots Q X hR hl hL hc hs hE
  obtain ⟨off, d, ht, rfl⟩ := hd
  exact lv_ifnonnullN X.1 X.2.1 d (k G p l e s m args below meth c H locs ls cells slots Q X hR hl hL hc hs hE)
theorem r_ret {v : Option Value} (hd : pm_D E pc 1 (pm_ri v) q) (hst : st = v.toList) (hok : pm_rok (pm_rt E) v) (hF : F v h) : pm_V E pc L st h b F := by
  intro G p l e s m args below meth c H locs ls cells slots Q X hR hl hL hc hs hE
  subst hst
  exact hE v h hF hok H locs cells slots pc ls hR hl (by omega) (by omega) hd.1
theorem r_ireturn {x : Int32} (hd : pm_D E pc 1 .ireturn q) (hok : ∃ ty, pm_rt E = some ty ∧ narrow ty (.int x) = .int x) (hF : F (some (.int x)) h) : pm_V E pc L [.int x] h b F := r_ret (v := some (.int x)) hd rfl hok hF
theorem r_lreturn {x : Int64} (hd : pm_D E pc 1 .lreturn q) (hok : pm_rt E = some .long) (hF : F (some (.long x)) h) : pm_V E pc L [.long x] h b F := r_ret (v := some (.long x)) hd rfl hok hF
theorem r_areturn {x n} (hd : pm_D E pc 1 .areturn q) (hok : pm_rt E = some (.object n)) (hF : F (some (.ref x)) h) : pm_V E pc L [.ref x] h b F := r_ret (v := some (.ref x)) hd rfl ⟨n, hok⟩ hF
theorem r_areturnN {n} (hd : pm_D E pc 1 .areturn q) (hok : pm_rt E = some (.object n)) (hF : F (some .null) h) : pm_V E pc L [.null] h b F := r_ret (v := some .null) hd rfl ⟨n, hok⟩ hF
theorem r_return (hd : pm_D E pc 1 .return_ q) (hok : pm_rt E = none) (hF : F none h) : pm_V E pc L [] h b F := r_ret (v := none) hd rfl hok hF
/-- a tableswitch: below, above, and each place -/
def pm_T (E : pm_E) (pc : Nat) (lo hi : Int) (d : Nat) (ts : List Nat) : Prop := ∃ (dflt : Int) (offs : Array Int) (len : Nat), decode (pm_cc E) pc = .ok (.tableswitch dflt lo hi offs, len) ∧ (pc : Int) + dflt = (d : Int) ∧ offs.toList.map (fun o => (pc : Int) + o) = ts.map (fun (t : Nat) => (t : Int))
theorem r_switch {x : Int32} {lo hi : Int} {d : Nat} {ts : List Nat} (hd : pm_T E pc lo hi d ts) (ko : (x.toInt < lo ∨ hi < x.toInt) → pm_V E d L st h b F) (ki : ∀ t, ¬ x.toInt < lo → ¬ hi < x.toInt → ts[(x.toInt - lo).toNat]? = some t → pm_V E t L st h b F) (hl9 : (hi - lo).toNat < ts.length) : pm_V E pc L (.int x :: st) h b F := by
  intro G p l e s m args below meth c H locs ls cells slots Q X hR hl hL hc hs hE
  obtain ⟨dflt, offs, len, d0, d1, d2⟩ := hd
  by_cases h1 : x.toInt < lo ∨ hi < x.toInt
  · exact lv_tableOut X.1 X.2.1 d0 h1 d1 (ko h1 G p l e s m args below meth c H locs ls cells slots Q X hR hl hL hc hs hE)
  · have h2 : ¬ x.toInt < lo := fun z => h1 (Or.inl z)
    have h3 : ¬ hi < x.toInt := fun z => h1 (Or.inr z)
    have hlt : (x.toInt - lo).toNat < ts.length := by omega
    have e1 : ts[(x.toInt - lo).toNat]? = some ts[(x.toInt - lo).toNat] := List.getElem?_eq_getElem hlt
    have hlen : offs.toList.length = ts.length := by
      have := congrArg List.length d2
      simpa using this
    have hlt2 : (x.toInt - lo).toNat < offs.toList.length := by omega
    have e2 : (pc : Int) + offs.toList[(x.toInt - lo).toNat] = ((ts[(x.toInt - lo).toNat] : Nat) : Int) := by
      have e3 := congrArg (fun z => z[(x.toInt - lo).toNat]?) d2
      simp only [List.getElem?_map, List.getElem?_eq_getElem hlt, List.getElem?_eq_getElem hlt2, Option.map_some, Option.some.injEq] at e3
      exact e3
    refine lv_tableIn X.1 X.2.1 d0 h2 h3 (off := offs.toList[(x.toInt - lo).toNat]) ?_ e2 (ki _ h2 h3 e1 G p l e s m args below meth c H locs ls cells slots Q X hR hl hL hc hs hE)
    rw [← Array.getElem?_toList]
    exact List.getElem?_eq_getElem hlt2
end PM
