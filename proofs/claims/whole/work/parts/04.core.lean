/-! THE WORDS: those of the tables that are kept through calls -/
def gt : List Cond := lw_tbl.filter goodWord
theorem gt_good {w : Cond} (h : w ∈ gt) : goodWord w = true := (List.mem_filter.mp h).2
theorem gt_tbl {w : Cond} (h : w ∈ gt) : w ∈ lw_tbl := (List.mem_filter.mp h).1
theorem gt_in {w : Cond} (h : w ∈ tables_1) (g : goodWord w = true) : w ∈ gt := List.mem_filter.mpr ⟨List.mem_append_right _ h, g⟩
theorem gt1 {w : Cond} {i : Nat} (h : tables_1_1[i]? = some w) (g : goodWord w = true) : w ∈ gt := gt_in (List.mem_append_left _ (List.mem_of_getElem? h)) g
theorem gt2 {w : Cond} {i : Nat} (h : tables_1_2[i]? = some w) (g : goodWord w = true) : w ∈ gt := gt_in (List.mem_append_right _ (List.mem_append_left _ (List.mem_of_getElem? h))) g
theorem gt3 {w : Cond} {i : Nat} (h : tables_1_3[i]? = some w) (g : goodWord w = true) : w ∈ gt := gt_in (List.mem_append_right _ (List.mem_append_right _ (List.mem_append_left _ (List.mem_of_getElem? h)))) g
theorem gt4 {w : Cond} {i : Nat} (h : tables_1_4[i]? = some w) (g : goodWord w = true) : w ∈ gt := gt_in (List.mem_append_right _ (List.mem_append_right _ (List.mem_append_right _ (List.mem_append_left _ (List.mem_of_getElem? h))))) g
theorem gt5 {w : Cond} {i : Nat} (h : tables_1_5[i]? = some w) (g : goodWord w = true) : w ∈ gt := gt_in (List.mem_append_right _ (List.mem_append_right _ (List.mem_append_right _ (List.mem_append_right _ (List.mem_append_left _ (List.mem_of_getElem? h)))))) g
theorem gt6 {w : Cond} {i : Nat} (h : tables_1_6[i]? = some w) (g : goodWord w = true) : w ∈ gt := gt_in (List.mem_append_right _ (List.mem_append_right _ (List.mem_append_right _ (List.mem_append_right _ (List.mem_append_right _ (List.mem_of_getElem? h)))))) g
theorem gtp {w : Cond} {i : Nat} (h : (k2_sels lw_privs)[i]? = some w) (g : goodWord w = true) : w ∈ gt := List.mem_filter.mpr ⟨List.mem_append_left _ (List.mem_of_getElem? h), g⟩
/-! THE CORE: a small machine over a fixed world of 76 cells, named by their places; Ct: a method's contract over it; WW: the walk of a body over it -/
abbrev Wd : Type := Nat → va_E
def vv (ad : Nat → Nat) : Value → Value
  | .ref k => .ref (ad k)
  | .int x => .int x
  | .long x => .long x
  | .float x => .float x
  | .double x => .double x
  | .null => .null
  | .retAddr x => .retAddr x
theorem vv_cat (ad : Nat → Nat) (v : Value) : (vv ad v).category = v.category := by cases v <;> rfl
theorem vv_null {ad : Nat → Nat} {v : Value} (h : v ≠ .null) : vv ad v ≠ .null := by cases v <;> simp_all [vv]
def ce (ad : Nat → Nat) (ck : Nat → ClassId) : va_E → va_E
  | .inl (k, x) => .inl (ck k, x)
  | .inr (c, fs) => .inr (c, fs.map (vv ad))
def mkw (ad : Nat → Nat) (ck : Nat → ClassId) (h : Wd) : va_W := (List.range 76).map (fun k => (ad k, ce ad ck (h k)))
theorem mkw_get {ad : Nat → Nat} {ck : Nat → ClassId} {h : Wd} {k : Nat} (hk : k < 76) : (mkw ad ck h)[k]? = some (ad k, ce ad ck (h k)) := by
  simp [mkw, hk]
theorem mkw_of {ad : Nat → Nat} {ck : Nat → ClassId} {h : Wd} {k : Nat} {q : Nat × va_E} (hq : (mkw ad ck h)[k]? = some q) : k < 76 ∧ q = (ad k, ce ad ck (h k)) := by
  by_cases hk : k < 76
  · rw [mkw_get hk] at hq
    exact ⟨hk, (Option.some.inj hq).symm⟩
  · exfalso
    have hl : (mkw ad ck h).length = 76 := by simp [mkw]
    have := (List.getElem?_eq_some_iff.mp hq).1
    omega
theorem mkw_set {ad : Nat → Nat} {ck : Nat → ClassId} {h : Wd} {k : Nat} (e : va_E) (hk : k < 76) : (mkw ad ck h).set k (ad k, ce ad ck e) = mkw ad ck (va_up h k e) := by
  apply List.ext_getElem?
  intro j
  by_cases hj : j = k
  · subst hj
    rw [mkw_get hk, List.getElem?_set_self (by simp [mkw, hk]), va_up_self]
  · rw [List.getElem?_set_ne (Ne.symm hj)]
    by_cases h2 : j < 76
    · rw [mkw_get h2, mkw_get h2, va_up_ne _ _ hj]
    · rw [List.getElem?_eq_none (by simp [mkw]; omega), List.getElem?_eq_none (by simp [mkw]; omega)]
def Aof (ad : Nat → Nat) : Nat → Prop := fun q => ∃ k, k < 76 ∧ q = ad k
def Inj (ad : Nat → Nat) : Prop := ∀ i j, i < 76 → j < 76 → ad i = ad j → i = j
theorem mkw_D {ad : Nat → Nat} {ck : Nat → ClassId} {h : Wd} (hi : Inj ad) : va_D (Aof ad) (mkw ad ck h) := by
  refine ⟨fun i j x y hx hy hxy => ?_, fun k q hq => ?_⟩
  · obtain ⟨h1, e1⟩ := mkw_of hx
    obtain ⟨h2, e2⟩ := mkw_of hy
    subst e1; subst e2
    exact hi i j h1 h2 hxy
  · obtain ⟨h1, e1⟩ := mkw_of hq
    subst e1
    exact ⟨k, h1, rfl⟩
abbrev tysOf (ck : Nat → ClassId) : List (ClassId × FieldType) := [(ck 0, .int), (ck 1, .long), (ck 2, .boolean)]
/-- the private members of nest mates that are linked -/
def nestF : List (String × Nat × String × String × String × String) := [(RX6, 64, "SnoresGold$Memory", "camp", "LSnoresGold$Camp;", "SnoresGold"), (RX6, 185, "SnoresGold$Memory", "tales", "LSnoresGold$Tales;", "SnoresGold"), (RX6, 231, "SnoresGold$Memory", "sights", "LSnoresGold$Sights;", "SnoresGold"), (RX2, 36, "SnoresGold", "DEED_SIGNS", "[C", "SnoresGold")]
def nestM : List (String × Nat × MethodName × String) := [(RX6, 31, yX5_init, "SnoresGold"), (RX0, 50, yX6_isCell, "SnoresGold"), (RX0, 76, yX6_isManNumber, "SnoresGold"), (RX0, 72, yX6_hasBit, "SnoresGold"), (RX2, 33, yX6_isManNumber, "SnoresGold"), (RX0, 145, yX6_rowOf, "SnoresGold"), (RX0, 148, yX6_columnOf, "SnoresGold"), (RX0, 116, yX6_distance, "SnoresGold"), (RX4, 45, yX6_hasBit, "SnoresGold"), (RX3, 33, yX6_columnOf, "SnoresGold"), (RX3, 37, yX6_rowOf, "SnoresGold")]
def NST (s : State) : Prop := (∀ q ∈ nestF, va_Nw (.fieldLinkNest q.1 q.2.1 q.2.2.1 q.2.2.2.1 q.2.2.2.2.1 q.2.2.2.2.2) s) ∧ (∀ q ∈ nestM, va_Nw (.methodLinkNest q.1 q.2.1 q.2.2.1 q.2.2.2) s)
theorem NST.warm {s U : State} (hW : s.WarmedH U.vm) (h : NST s) : NST U := ⟨fun q hq => va_Nw.warmF hW (h.1 q hq), fun q hq => va_Nw.warmM hW (h.2 q hq)⟩
theorem NST.same {s U : State} (e : s.vm = U.vm) (h : NST s) : NST U := ⟨fun q hq => va_Nw.same rfl e (h.1 q hq), fun q hq => va_Nw.same rfl e (h.2 q hq)⟩
/-- the static row of the deeds' signs; its place is 99 -/
def dsg (j : Nat) : Int32 := match j with
  | 0 => 110
  | 1 => 101
  | 2 => 115
  | 3 => 119
  | 4 => 100
  | 5 => 99
  | 6 => 46
  | 7 => 42
  | _ => 126
def ZST (ad : Nat → Nat) (s : State) (H : Heap) : Prop := va_Z "SnoresGold" "DEED_SIGNS" "[C" (.ref (ad 99)) (Aof ad) s H ∧ va_T .char (ad 99) 9 (fun j => .int (dsg j)) (Aof ad) s H
def IV (D : va_G) (ad : Nat → Nat) (ck : Nat → ClassId) (h : Wd) (U : State) : Prop := va_P D vwCl (mkw ad ck h) U.heap ∧ va_K D vwCl (tysOf ck) U ∧ NST U ∧ ZST ad U U.heap
/-- a method: name, bytes, locals, return type, parameters, room -/
abbrev MI : Type := MethodName × ByteArray × Nat × Option FieldType × Nat × Nat × Nat
abbrev my (q : MI) : MethodName := q.1
abbrev mb (q : MI) : ByteArray := q.2.1
abbrev mn (q : MI) : Nat := q.2.2.1
abbrev mr (q : MI) : Option FieldType := q.2.2.2.1
abbrev mp (q : MI) : Nat := q.2.2.2.2.1
abbrev mf (q : MI) : Nat := q.2.2.2.2.2.1
abbrev mo (q : MI) : Nat := q.2.2.2.2.2.2
abbrev rmM (q : MI) : Room := { frames := mf q, cells := 0, slots := 0, locals := mo q }
abbrev wsM (q : MI) : List Cond := .code (my q) (mb q) (mn q) (mr q) :: gt
def Qc (D : va_G) (ad : Nat → Nat) (ck : Nat → ClassId) (r : Option Value) (h' : Wd) : Array Value → State → Outcome → State → Prop := fun _ st oc t => (oc = .returned (r.map (vv ad)) ∧ IV D ad ck h' t) ∧ va_F (Aof ad) st t
/-- a method's contract over the world of places -/
def Ct (q : MI) (as : List Value) (h : Wd) (r : Option Value) (h' : Wd) : Prop := ∀ (l : Launch) (D : va_G) (ad : Nat → Nat) (ck : Nat → ClassId), Inj ad → Met l (my q) (wsM q) (rmM q) (va_Pc (as.map (vv ad)) (IV D ad ck h)) (Qc D ad ck r h') 0 0 (Aof ad)
def asc : Nat → List Value → List (Nat × Value)
  | _, [] => []
  | i, v :: t => if v = .null then asc (i + 1) t else (i, v) :: asc (i + 1) t
theorem asc_mem {w : Value} {j : Nat} : ∀ {L : List Value} {i : Nat}, (j, w) ∈ asc i L ↔ w ≠ .null ∧ ∃ k, L[k]? = some w ∧ j = i + k := by
  intro L
  induction L with
  | nil => intro i; simp [asc]
  | cons v t ih =>
    intro i
    have key : (∃ k, (v :: t)[k]? = some w ∧ j = i + k) ↔ (w = v ∧ j = i) ∨ ∃ k, t[k]? = some w ∧ j = i + 1 + k := by
      constructor
      · rintro ⟨k, h1, h2⟩
        cases k with
        | zero => exact Or.inl ⟨(Option.some.inj h1).symm, by omega⟩
        | succ k => exact Or.inr ⟨k, by simpa using h1, by omega⟩
      · rintro (⟨h1, h2⟩ | ⟨k, h1, h2⟩)
        · exact ⟨0, by simp [h1], by omega⟩
        · exact ⟨k + 1, by simpa using h1, by omega⟩
    rw [key]
    by_cases hv : v = .null
    · rw [asc, if_pos hv, ih]
      constructor
      · rintro ⟨a, b⟩; exact ⟨a, Or.inr b⟩
      · rintro ⟨a, ⟨b, -⟩ | b⟩
        · exact absurd (b.trans hv) a
        · exact ⟨a, b⟩
    · rw [asc, if_neg hv, List.mem_cons, ih]
      constructor
      · rintro (a | ⟨a, b⟩)
        · have h1 := congrArg Prod.fst a
          have h2 := congrArg Prod.snd a
          dsimp only at h1 h2
          exact ⟨by rw [h2]; exact hv, Or.inl ⟨h2, h1⟩⟩
        · exact ⟨a, Or.inr b⟩
      · rintro ⟨a, ⟨b, c⟩ | b⟩
        · exact Or.inl (by rw [b, c])
        · exact Or.inr ⟨a, b⟩
/-- the locals: null stands for a slot that nothing is said of -/
def Has (ad : Nat → Nat) (ls : Array Slot) (n : Nat) (L : List Value) : Prop := lv_has ls n (asc 0 (L.map (vv ad)))
theorem Has.at {ad : Nat → Nat} {ls : Array Slot} {n i : Nat} {L : List Value} {v : Value} (A : Has ad ls n L) (h : L[i]? = some v) (hv : v ≠ .null) : ls[i]? = some (.val (vv ad v)) :=
  A.2.2 (i, vv ad v) (asc_mem.mpr ⟨vv_null hv, i, by rw [List.getElem?_map, h]; rfl, by omega⟩)
theorem Has.mid {ad : Nat → Nat} {ls : Array Slot} {n i : Nat} {X t : List Value} {v : Value} (A : Has ad ls n (X ++ v :: t)) (hX : X.length = i) (hv : v ≠ .null) : ls[i]? = some (.val (vv ad v)) :=
  A.at (by rw [← hX, List.getElem?_append_right (Nat.le_refl _), Nat.sub_self]; rfl) hv
theorem asc_of {w : Value} {j : Nat} {L : List Value} (h : (j, w) ∈ asc 0 L) : w ≠ .null ∧ L[j]? = some w := by
  obtain ⟨a, k, b, c⟩ := asc_mem.mp h
  exact ⟨a, by rw [c, Nat.zero_add]; exact b⟩
/-- behind a store of one slot -/
theorem Has.set1 {ad : Nat → Nat} {ls' : Array Slot} {n i : Nat} {X t : List Value} {a v : Value} (hX : X.length = i) (hc : ∀ w, X.getLast? = some w → w.category = 1)
    (A' : lv_has ls' n ((i, vv ad v) :: (asc 0 ((X ++ a :: t).map (vv ad))).filter (fun q => !(q.1 == i) && !(q.1 + 1 == i && q.2.category == 2)))) : Has ad ls' n (X ++ v :: t) := by
  refine ⟨A'.1, A'.2.1, fun q hq => ?_⟩
  obtain ⟨j, w⟩ := q
  obtain ⟨h1, h2⟩ := asc_of hq
  refine A'.2.2 (j, w) ?_
  rw [List.getElem?_map] at h2
  subst hX
  by_cases hj : j = X.length
  · subst hj
    rw [List.getElem?_append_right (Nat.le_refl _), Nat.sub_self] at h2
    have e : vv ad v = w := by simpa using h2
    rw [e]
    exact List.mem_cons_self
  · refine List.mem_cons_of_mem _ (List.mem_filter.mpr ⟨asc_mem.mpr ⟨h1, j, ?_, by omega⟩, ?_⟩)
    · rw [List.getElem?_map]
      rcases Nat.lt_or_ge j X.length with hl | hl
      · rw [List.getElem?_append_left hl] at h2 ⊢
        exact h2
      · rw [List.getElem?_append_right hl] at h2 ⊢
        obtain ⟨d, hd⟩ : ∃ d, j - X.length = d + 1 := ⟨j - X.length - 1, by omega⟩
        rw [hd] at h2 ⊢
        exact h2
    · simp only [Bool.and_eq_true, Bool.not_eq_true', beq_eq_false_iff_ne, ne_eq, Bool.and_eq_false_iff]
      refine ⟨hj, ?_⟩
      by_cases h3 : j + 1 = X.length
      · refine Or.inr ?_
        rw [List.getElem?_append_left (by omega)] at h2
        cases hx : X[j]? with
        | none => rw [hx] at h2; cases h2
        | some z =>
          rw [hx] at h2
          have e : vv ad z = w := Option.some.inj h2
          have hz := hc z (by rw [List.getLast?_eq_getElem?, ← hx]; congr 1; omega)
          rw [← e, vv_cat, hz]
          decide
      · exact Or.inl h3
theorem Has.set2 {ad : Nat → Nat} {ls' : Array Slot} {n i : Nat} {X t : List Value} {a b v : Value} (hX : X.length = i) (hc : ∀ w, X.getLast? = some w → w.category = 1)
    (A' : lv_has ls' n ((i, vv ad v) :: (asc 0 ((X ++ a :: b :: t).map (vv ad))).filter (fun q => !(q.1 == i) && (!(q.1 == i + 1) && !(q.1 + 1 == i && q.2.category == 2))))) : Has ad ls' n (X ++ v :: .null :: t) := by
  refine ⟨A'.1, A'.2.1, fun q hq => ?_⟩
  obtain ⟨j, w⟩ := q
  obtain ⟨h1, h2⟩ := asc_of hq
  refine A'.2.2 (j, w) ?_
  rw [List.getElem?_map] at h2
  subst hX
  by_cases hj : j = X.length
  · subst hj
    rw [List.getElem?_append_right (Nat.le_refl _), Nat.sub_self] at h2
    have e : vv ad v = w := by simpa using h2
    rw [e]
    exact List.mem_cons_self
  · have hj2 : j ≠ X.length + 1 := by
      intro e
      rw [e, List.getElem?_append_right (by omega), show X.length + 1 - X.length = 1 by omega] at h2
      have : vv ad .null = w := by simpa using h2
      exact h1 (by rw [← this]; rfl)
    refine List.mem_cons_of_mem _ (List.mem_filter.mpr ⟨asc_mem.mpr ⟨h1, j, ?_, by omega⟩, ?_⟩)
    · rw [List.getElem?_map]
      rcases Nat.lt_or_ge j X.length with hl | hl
      · rw [List.getElem?_append_left hl] at h2 ⊢
        exact h2
      · rw [List.getElem?_append_right hl] at h2 ⊢
        obtain ⟨d, hd⟩ : ∃ d, j - X.length = d + 2 := ⟨j - X.length - 2, by omega⟩
        rw [hd] at h2 ⊢
        exact h2
    · simp only [Bool.and_eq_true, Bool.not_eq_true', beq_eq_false_iff_ne, ne_eq, Bool.and_eq_false_iff]
      refine ⟨hj, hj2, ?_⟩
      by_cases h3 : j + 1 = X.length
      · refine Or.inr ?_
        rw [List.getElem?_append_left (by omega)] at h2
        cases hx : X[j]? with
        | none => rw [hx] at h2; cases h2
        | some z =>
          rw [hx] at h2
          have e : vv ad z = w := Option.some.inj h2
          have hz := hc z (by rw [List.getLast?_eq_getElem?, ← hx]; congr 1; omega)
          rw [← e, vv_cat, hz]
          decide
      · exact Or.inl h3
/-- a method's arguments as locals -/
def lpos : List Value → List Value
  | [] => []
  | v :: t => if v.category = 2 then v :: .null :: lpos t else v :: lpos t
theorem lpos_args {ad : Nat → Nat} : ∀ (vs : List Value) (i j : Nat) (w : Value), ((lpos vs).map (vv ad))[j]? = some w → w ≠ .null → (i + j, w) ∈ lv_args i (vs.map (vv ad)) := by
  intro vs
  induction vs with
  | nil => intro i j w h; simp [lpos] at h
  | cons v t ih =>
    intro i j w h hw
    rw [List.map_cons, lv_args, vv_cat]
    by_cases hc : v.category = 2
    · rw [lpos, if_pos hc] at h
      rw [if_pos hc]
      rcases j with _ | _ | j
      · have e : vv ad v = w := by simpa using h
        rw [← e]
        exact List.mem_cons_self
      · have e : vv ad .null = w := by simpa using h
        exact absurd (by rw [← e]; rfl) hw
      · have := ih (i + 2) j w (by simpa using h) hw
        exact List.mem_cons_of_mem _ (by rw [show i + (j + 1 + 1) = i + 2 + j by omega]; exact this)
    · rw [lpos, if_neg hc] at h
      rw [if_neg hc]
      rcases j with _ | j
      · have e : vv ad v = w := by simpa using h
        rw [← e]
        exact List.mem_cons_self
      · have := ih (i + 1) j w (by simpa using h) hw
        exact List.mem_cons_of_mem _ (by rw [show i + (j + 1) = i + 1 + j by omega]; exact this)
theorem has_entry {ad : Nat → Nat} {as : List Value} {n : Nat} {Z : List Value} (hlen : (lg_sl (as.map (vv ad))).length ≤ n) (hZ : ∀ z ∈ Z, z = .null) : Has ad ((lg_sl (as.map (vv ad)) ++ List.replicate (n - (lg_sl (as.map (vv ad))).length) Slot.unset).toArray) n (lpos as ++ Z) := by
  have e := lv_entry (as.map (vv ad)) (n := n) hlen
  refine ⟨e.1, e.2.1, fun q hq => ?_⟩
  obtain ⟨j, w⟩ := q
  obtain ⟨h1, h2⟩ := asc_of hq
  refine e.2.2 (j, w) ?_
  rw [List.map_append] at h2
  rcases Nat.lt_or_ge j ((lpos as).map (vv ad)).length with hl | hl
  · rw [List.getElem?_append_left hl] at h2
    have := lpos_args as 0 j w h2 h1
    rwa [Nat.zero_add] at this
  · rw [List.getElem?_append_right hl] at h2
    have hm := List.mem_of_getElem? h2
    obtain ⟨z, hz, ez⟩ := List.mem_map.mp hm
    rw [hZ z hz] at ez
    exact absurd ez.symm h1
theorem sl_len (ad : Nat → Nat) : ∀ vs : List Value, (lg_sl (vs.map (vv ad))).length = (lg_sl vs).length := by
  intro vs
  induction vs with
  | nil => rfl
  | cons v t ih =>
    simp only [lg_sl, List.map_cons, List.flatMap_cons, List.length_append, vv_cat] at ih ⊢
    rw [ih]
    congr 1
    by_cases hc : v.category = 2 <;> simp [hc]
/-- what stands at every place of a method's walk -/
def CX (q : MI) (p : Program) (s : State) (m : MethodId) (args : Array Value) (meth : Method) (c : Code) (D : va_G) (ad : Nat → Nat) (ck : Nat → ClassId) : Prop :=
  p.tables.exec = Jvm.exec ∧ c.code = mb q ∧ c.maxLocals = mn q ∧ s.vm.findClass (my q).cls = some m.cls ∧ (∀ w ∈ gt, w.before args s = true) ∧ meth.sig.returnType = mr q ∧ meth.locks = false ∧ va_K D vwCl (tysOf ck) s ∧ NST s ∧ ZST ad s s.heap ∧ Inj ad
def WW (q : MI) (pc : Nat) (L st : List Value) (h : Wd) (r : Option Value) (h' : Wd) : Prop :=
  ∀ (p : Program) (l : Launch) (e : Env) (s : State) (m : MethodId) (args : Array Value) (below : List Frame) (meth : Method) (c : Code) (D : va_G) (ad : Nat → Nat) (ck : Nat → ClassId) (H : Heap) (locs : List Loc) (ls : Array Slot),
    CX q p s m args meth c D ad ck → va_P D vwCl (mkw ad ck h) H → va_S (Aof ad) s.heap H locs → Has ad ls (mn q) L →
    W p l e (rmM q) s m args below meth c H locs 0 0 (MQ below (Qc D ad ck r h') args s 0 0 (Aof ad)) (F0 m pc ls (st.map (vv ad)))
theorem ZST.to {ad : Nat → Nat} {s U : State} {H : Heap} {locs : List Loc} (h : ZST ad s s.heap) (hW : s.vm.Alike U.vm) (S : va_S (Aof ad) s.heap H locs) (hU : U.heap = H) : ZST ad U U.heap := by
  rw [hU]
  exact ⟨(h.1.moved hW).kept S.2.1, (h.2.moved hW).kept S.2.1⟩
theorem CX.iv {q : MI} {p : Program} {s : State} {m : MethodId} {args : Array Value} {meth : Method} {c : Code} {D : va_G} {ad : Nat → Nat} {ck : Nat → ClassId} {h : Wd} {H : Heap} {locs : List Loc} {U : State} (C : CX q p s m args meth c D ad ck) (P : va_P D vwCl (mkw ad ck h) H) (S : va_S (Aof ad) s.heap H locs) (hU : U.heap = H) (hW : s.WarmedH U.vm) : IV D ad ck h U := by
  obtain ⟨-, -, -, -, -, -, -, hK, hN, hZ, -⟩ := C
  exact ⟨by rw [hU]; exact P, va_K.moved hW.alike hK, hN.warm hW, hZ.to hW.alike S hU⟩
theorem Ct.of {q : MI} {as : List Value} {Z : List Value} {h h' : Wd} {r : Option Value} (hy : plainName (my q).cls = true) (hlen : (lg_sl as).length ≤ mn q) (hZ : ∀ z ∈ Z, z = .null) (k : WW q 0 (lpos as ++ Z) [] h r h') : Ct q as h r h' := by
  intro l D ad ck hi
  refine Met.ofW (cc := mb q) (maxL := mn q) (ret := mr q) hy rfl ?_
  intro p e s m args below meth c s₁ B hml hv
  obtain ⟨rfl, hIV⟩ := hv
  have hts := atoms_spec (ws := wsM q) B.pre
  have C : CX q p s m _ meth c D ad ck := ⟨B.exec, B.bytes, hml, findClass_of_methodNamed B.named, fun w hw => hts w (List.mem_cons_of_mem _ hw), B.returns, B.notSynchronized, hIV.2.1, hIV.2.2.1, hIV.2.2.2, hi⟩
  rw [lg_entry_eq]
  exact k p l e s m _ below meth c D ad ck s.heap [] _ C hIV.1 va_S.rf (has_entry (by rw [sl_len]; exact hlen) hZ)
/-- what a callee asks of the tables -/
def CO (q : MI) : Prop := Cond.code (my q) (mb q) (mn q) (mr q) ∈ gt ∧ Cond.initialized (my q).cls ∈ gt ∧ ((my q).cls ≠ "java/lang/invoke/MethodHandle" ∧ (my q).cls ≠ "java/lang/invoke/VarHandle" ∧ (parseMethodDescriptor (my q).desc).map (fun d => d.parameters.length) = some (mp q))
def CV (q : MI) : Prop := CO q ∧ Cond.instanceMethod (my q) ∈ gt ∧ Cond.selects (my q).cls (my q) (my q) ∈ gt
def CS (q : MI) : Prop := CO q ∧ Cond.static (my q) ∈ gt
def RM (q q2 : MI) : Prop := mf q2 + 1 ≤ mf q ∧ 8 + (mn q2 + 11) + mo q2 ≤ mo q
theorem co_good {q2 : MI} (h : CO q2) : GoodIn gt (wsM q2) := by
  intro w hw
  rcases List.mem_cons.mp hw with rfl | hw
  · exact ⟨h.1, good_of_word (gt_good h.1)⟩
  · exact ⟨hw, good_of_word (gt_good hw)⟩
theorem fb_IV {D : va_G} {ad : Nat → Nat} {ck : Nat → ClassId} {h : Wd} {as : List Value} : FrameBlind (va_Pc as (IV D ad ck h)) := by
  intro a U g mk hq
  obtain ⟨q0, q1, q2, q3, q4⟩ := hq
  exact ⟨q0, q1, va_K.moved (u := U) (U := U.calling g mk a) (Vm.Alike.refl U.vm) q2, q3.same rfl, q4.1.moved (u := U) (U := U.calling g mk a) (Vm.Alike.refl U.vm), q4.2.moved (u := U) (U := U.calling g mk a) (Vm.Alike.refl U.vm)⟩
theorem ww_call {p : Program} {l : Launch} {e : Env} {R : Room} {s : State} {m : MethodId} {args : Array Value} {below : List Frame} {meth : Method} {c : Code} {H : Heap} {locs : List Loc} {Q : State → Prop} {D : va_G} {ad : Nat → Nat} {ck : Nat → ClassId} {pc : Nat} {ls : Array Slot} {st0 rest : List Value} {a : Array Value} {r : Option Value} {h1 : Wd}
    (hr : va_Run p l e R s m args below meth c H locs 0 0 0 0 (F0 m pc ls st0) rest (Qc D ad ck r h1 a) (Aof ad)) (S : va_S (Aof ad) s.heap H locs)
    (kk : ∀ (H1 : Heap) (locs1 : List Loc), va_P D vwCl (mkw ad ck h1) H1 → va_S (Aof ad) s.heap H1 locs1 → W p l e R s m args below meth c H1 locs1 0 0 Q (F0 m (pc + 3) ls ((r.map (vv ad)).toList ++ rest))) : W p l e R s m args below meth c H locs 0 0 Q (F0 m pc ls st0) := by
  intro T hT X
  obtain ⟨v, st₀, t, T', L, h0, X', hL, e1, e2, ⟨⟨hv, hIV⟩, hz, hk⟩, st⟩ := hr T hT X
  cases hv
  rw [h0] at hz hk
  obtain ⟨t2, a1, b1⟩ := kk T'.heap (locs ++ L) (by rw [e1]; exact hIV.1)
    ⟨Nat.le_trans S.1 (by rw [e1]; exact hz), fun q g1 g2 => by rw [e1, hk q (Nat.lt_of_lt_of_le g1 S.1) g2]; exact S.2.1 q g1 g2, fun q hq => by
      rcases List.mem_append.mp hq with h | h
      · exact S.2.2 q h
      · exact hL q h⟩ T' rfl X'
  exact ⟨t2, st t2 a1, b1⟩
theorem cat_sum {ad : Nat → Nat} (st : List Value) : ((st.map (vv ad)).map fun v => v.category).sum = (st.map fun v => v.category).sum := by
  rw [List.map_map]
  congr 1
  apply List.map_congr_left
  intro v _
  exact vv_cat ad v
def osum (st : List Value) : Nat := (st.map fun v => v.category).sum
theorem callB_mk {q q2 : MI} {p : Program} {s : State} {m : MethodId} {args : Array Value} {meth : Method} {c : Code} {D : va_G} {ad : Nat → Nat} {ck : Nat → ClassId} {idx : Nat} (C : CX q p s m args meth c D ad ck) (ho : CO q2) (hR : RM q q2) (hl : Cond.methodLink (my q).cls idx (my q2) ∈ gt) : CallB (rmM q) s args (my q).cls idx (my q2) (mb q2) (mn q2) (mr q2) (wsM q2) (rmM q2) 0 0 (mp q2) := by
  obtain ⟨-, -, -, -, hts, -⟩ := C
  exact callB_of (mp q2) hts (co_good ho) rfl rfl rfl (hts _ ho.2.1) (hts _ hl) ho.2.2 hR
theorem r_callV {q q2 : MI} {pc idx ci n b : Nat} {L st as st0 : List Value} {h h1 h' : Wd} {r1 r : Option Value} {fs : List Value} {T : u_T} (hc : Ct q2 (.ref b :: as) h r1 h1) (hv : CV q2) (hR : RM q q2) (hl : Cond.methodLink (my q).cls idx (my q2) ∈ gt) (hd : decode (mb q) pc = .ok (.invokevirtual idx, 3)) (hb : b < 76) (hh : h b = .inr (ci, fs)) (hcl : vwCl[ci]? = some ((my q2).cls, T, n)) (hn : as.length = mp q2) (hs : st0 = as.reverse ++ .ref b :: st) (hw : osum st ≤ 8)
    (k : WW q (pc + 3) L (r1.toList ++ st) h1 r h') : WW q pc L st0 h r h' := by
  subst hs
  intro p l e s m args below meth c D ad ck H locs ls C P S A
  have hM := hc l D ad ck C.2.2.2.2.2.2.2.2.2.2
  obtain ⟨hx, hbb, hml, hown, hts, hrt, hlk, hK, hN, hZ, hi⟩ := id C
  have hB := callB_mk (idx := idx) C hv.1 hR hl
  refine ww_call (va_runV (C := (my q2).cls) (b := ad b) (As := as.map (vv ad)) (rest := st.map (vv ad)) ⟨hx, hbb, hml, hown, hts⟩ hM ⟨hB, hts _ hv.2.1, hts _ hv.2.2⟩ ⟨fb_IV, ?_, fun U hU hW => ⟨rfl, C.iv P S hU hW⟩⟩ rfl (by rw [List.length_map]; exact hn) A.1 ?_ ?_ hd ⟨Nat.zero_le _, Nat.zero_le _⟩) S (fun H1 locs1 P1 S1 => ?_)
  · have := va_recv hK P hcl (a := ad b) (q0 := b) (fs := fs.map (vv ad)) (by rw [mkw_get hb, hh]; rfl)
    exact this
  · show List.map (vv ad) _ = _
    rw [List.map_append, List.map_reverse]
    rfl
  · refine lv_room ?_
    rw [cat_sum]
    exact hw
  · have := k p l e s m args below meth c D ad ck H1 locs1 ls C P1 S1 A
    rw [List.map_append] at this
    cases r1 with
    | none => exact this
    | some v => exact this
theorem r_callS {q q2 : MI} {pc idx : Nat} {L st as st0 : List Value} {h h1 h' : Wd} {r1 r : Option Value} (hc : Ct q2 as h r1 h1) (hv : CS q2) (hR : RM q q2) (hl : Cond.methodLink (my q).cls idx (my q2) ∈ gt) (hd : decode (mb q) pc = .ok (.invokestatic idx, 3)) (hn : as.length = mp q2) (hs : st0 = as.reverse ++ st) (hw : osum st ≤ 8)
    (k : WW q (pc + 3) L (r1.toList ++ st) h1 r h') : WW q pc L st0 h r h' := by
  subst hs
  intro p l e s m args below meth c D ad ck H locs ls C P S A
  have hM := hc l D ad ck C.2.2.2.2.2.2.2.2.2.2
  obtain ⟨hx, hbb, hml, hown, hts, hrt, hlk, hK, hN, hZ, hi⟩ := id C
  have hB := callB_mk (idx := idx) C hv.1 hR hl
  refine ww_call (va_runS (As := as.map (vv ad)) (rest := st.map (vv ad)) ⟨hx, hbb, hml, hown, hts⟩ hM ⟨hB, hts _ hv.2⟩ ⟨fb_IV, fun U hU hW => ⟨rfl, C.iv P S hU hW⟩⟩ rfl (by rw [List.length_map]; exact hn) A.1 ?_ ?_ hd ⟨Nat.zero_le _, Nat.zero_le _⟩) S (fun H1 locs1 P1 S1 => ?_)
  · show List.map (vv ad) _ = _
    rw [List.map_append, List.map_reverse]
  · refine lv_room ?_
    rw [cat_sum]
    exact hw
  · have := k p l e s m args below meth c D ad ck H1 locs1 ls C P1 S1 A
    rw [List.map_append] at this
    cases r1 with
    | none => exact this
    | some v => exact this
/-- a call of a nest mate's private static method -/
theorem r_callSN {q q2 : MI} {pc idx : Nat} {host : String} {L st as st0 : List Value} {h h1 h' : Wd} {r1 r : Option Value} (hc : Ct q2 as h r1 h1) (hv : CS q2) (hR : RM q q2) (hl : ((my q).cls, idx, my q2, host) ∈ nestM) (hd : decode (mb q) pc = .ok (.invokestatic idx, 3)) (hn : as.length = mp q2) (hs : st0 = as.reverse ++ st) (hw : osum st ≤ 8)
    (k : WW q (pc + 3) L (r1.toList ++ st) h1 r h') : WW q pc L st0 h r h' := by
  subst hs
  intro p l e s m args below meth c D ad ck H locs ls C P S A
  have hM := hc l D ad ck C.2.2.2.2.2.2.2.2.2.2
  obtain ⟨hx, hbb, hml, hown, hts, hrt, hlk, hK, hN, hZ, hi⟩ := id C
  have hB : va_CN (rmM q) s args (my q).cls idx (my q2) host (mb q2) (mn q2) (mr q2) (wsM q2) (rmM q2) 0 0 (mp q2) := va_cnB (mp q2) hts (co_good hv.1) rfl rfl rfl (hN.2 _ hl) (hts _ hv.1.2.1) hv.1.2.2 hR
  refine ww_call (va_runSN (As := as.map (vv ad)) (rest := st.map (vv ad)) ⟨hx, hbb, hml, hown, hts⟩ hM ⟨hB, hts _ hv.2, trivial⟩ ⟨fb_IV, fun U hU hW => ⟨rfl, C.iv P S hU hW⟩⟩ rfl (by rw [List.length_map]; exact hn) A.1 ?_ ?_ hd ⟨Nat.zero_le _, Nat.zero_le _⟩) S (fun H1 locs1 P1 S1 => ?_)
  · show List.map (vv ad) _ = _
    rw [List.map_append, List.map_reverse]
  · refine lv_room ?_
    rw [cat_sum]
    exact hw
  · have := k p l e s m args below meth c D ad ck H1 locs1 ls C P1 S1 A
    rw [List.map_append] at this
    cases r1 with
    | none => exact this
    | some v => exact this
