/-! THE RULES: an instruction each, over the world of places -/
theorem r_iconst {q : MI} {pc : Nat} {st : List Value} {h h' : Wd} {r : Option Value} {L : List Value} {n : Int} (v : Int32) (hd : decode (mb q) pc = .ok (.iconst n, 1)) (hv : Int32.ofInt n = v) (k : WW q (pc + 1) L (.int v :: st) h r h') : WW q pc L st h r h' := by
  intro p l e s m args below meth c D ad ck H locs ls C P S A
  exact lv_iconst C.1 C.2.1 hd hv (k p l e s m args below meth c D ad ck H locs ls C P S A)
theorem r_bipush {q : MI} {pc : Nat} {st : List Value} {h h' : Wd} {r : Option Value} {L : List Value} {n : Int} (v : Int32) (hd : decode (mb q) pc = .ok (.bipush n, 2)) (hv : (Int8.ofInt n).toInt32 = v) (k : WW q (pc + 2) L (.int v :: st) h r h') : WW q pc L st h r h' := by
  intro p l e s m args below meth c D ad ck H locs ls C P S A
  exact lv_bipush C.1 C.2.1 hd hv (k p l e s m args below meth c D ad ck H locs ls C P S A)
theorem r_sipush {q : MI} {pc : Nat} {st : List Value} {h h' : Wd} {r : Option Value} {L : List Value} {n : Int} (v : Int32) (hd : decode (mb q) pc = .ok (.sipush n, 3)) (hv : (Int16.ofInt n).toInt32 = v) (k : WW q (pc + 3) L (.int v :: st) h r h') : WW q pc L st h r h' := by
  intro p l e s m args below meth c D ad ck H locs ls C P S A
  exact lv_sipush C.1 C.2.1 hd hv (k p l e s m args below meth c D ad ck H locs ls C P S A)
theorem r_lconst {q : MI} {pc : Nat} {st : List Value} {h h' : Wd} {r : Option Value} {L : List Value} {n : Fin 2} (v : Int64) (hd : decode (mb q) pc = .ok (.lconst n, 1)) (hv : Int64.ofNat (n : Nat) = v) (k : WW q (pc + 1) L (.long v :: st) h r h') : WW q pc L st h r h' := by
  intro p l e s m args below meth c D ad ck H locs ls C P S A
  exact lv_lconst C.1 C.2.1 hd hv (k p l e s m args below meth c D ad ck H locs ls C P S A)
theorem r_ldc {q : MI} {pc : Nat} {st : List Value} {h h' : Wd} {r : Option Value} {L : List Value} {ix : Nat} {v : Int32} (hd : decode (mb q) pc = .ok (.ldc ix, 2)) (hl : Cond.constant (my q).cls ix v ∈ gt) (k : WW q (pc + 2) L (.int v :: st) h r h') : WW q pc L st h r h' := by
  intro p l e s m args below meth c D ad ck H locs ls C P S A
  exact lv_ldc C.1 C.2.1 C.2.2.2.1 (C.2.2.2.2.1 _ hl) hd (k p l e s m args below meth c D ad ck H locs ls C P S A)
theorem r_ldcw {q : MI} {pc : Nat} {st : List Value} {h h' : Wd} {r : Option Value} {L : List Value} {ix : Nat} {v : Int32} (hd : decode (mb q) pc = .ok (.ldc_w ix, 3)) (hl : Cond.constant (my q).cls ix v ∈ gt) (k : WW q (pc + 3) L (.int v :: st) h r h') : WW q pc L st h r h' := by
  intro p l e s m args below meth c D ad ck H locs ls C P S A
  exact lv_ldcw C.1 C.2.1 C.2.2.2.1 (C.2.2.2.2.1 _ hl) hd (k p l e s m args below meth c D ad ck H locs ls C P S A)
theorem r_ldc2 {q : MI} {pc : Nat} {st : List Value} {h h' : Wd} {r : Option Value} {L : List Value} {ix : Nat} {v : Int64} (hd : decode (mb q) pc = .ok (.ldc2_w ix, 3)) (hl : Cond.constantLong (my q).cls ix v ∈ gt) (k : WW q (pc + 3) L (.long v :: st) h r h') : WW q pc L st h r h' := by
  intro p l e s m args below meth c D ad ck H locs ls C P S A
  exact lv_ldc2 C.1 C.2.1 C.2.2.2.1 (C.2.2.2.2.1 _ hl) hd (k p l e s m args below meth c D ad ck H locs ls C P S A)
theorem asc_ix {X t : List Value} {x : Int32} {ad : Nat → Nat} : ∃ kk : Nat, (asc 0 ((X ++ Value.int x :: t).map (vv ad)))[kk]? = some (X.length, Value.int x) := by
  have hne : Value.int x ≠ Value.null := fun z => by cases z
  have h1 : ((X ++ Value.int x :: t).map (vv ad))[X.length]? = some (Value.int x) := by
    rw [List.getElem?_map, List.getElem?_append_right (Nat.le_refl _), Nat.sub_self]
    rfl
  have h2 : (0 + X.length, Value.int x) ∈ asc 0 ((X ++ Value.int x :: t).map (vv ad)) := asc_mem.mpr ⟨hne, X.length, h1, rfl⟩
  rw [Nat.zero_add] at h2
  exact List.getElem?_of_mem h2
theorem r_iload_0 {q : MI} {pc : Nat} {st : List Value} {h h' : Wd} {r : Option Value} {t : List Value} {x : Int32} (hd : decode (mb q) pc = .ok (.iload_n 0, 1))  (k : WW q (pc + 1) (.int x :: t) (.int x :: st) h r h') : WW q pc (.int x :: t) st h r h' := by
  intro p l e s m args below meth c D ad ck H locs ls C P S A
  exact lv_iload_n C.1 C.2.1 (i := 0) hd rfl (A.mid (X := []) rfl (fun z => by cases z)) (k p l e s m args below meth c D ad ck H locs ls C P S A)
theorem r_lload_0 {q : MI} {pc : Nat} {st : List Value} {h h' : Wd} {r : Option Value} {t : List Value} {x : Int64} (hd : decode (mb q) pc = .ok (.lload_n 0, 1))  (k : WW q (pc + 1) (.long x :: t) (.long x :: st) h r h') : WW q pc (.long x :: t) st h r h' := by
  intro p l e s m args below meth c D ad ck H locs ls C P S A
  exact lv_lload_n C.1 C.2.1 (i := 0) hd rfl (A.mid (X := []) rfl (fun z => by cases z)) (k p l e s m args below meth c D ad ck H locs ls C P S A)
theorem r_aload_0 {q : MI} {pc : Nat} {st : List Value} {h h' : Wd} {r : Option Value} {t : List Value} {x : Nat} (hd : decode (mb q) pc = .ok (.aload_n 0, 1))  (k : WW q (pc + 1) (.ref x :: t) (.ref x :: st) h r h') : WW q pc (.ref x :: t) st h r h' := by
  intro p l e s m args below meth c D ad ck H locs ls C P S A
  exact lv_aload_n C.1 C.2.1 (i := 0) hd rfl (A.mid (X := []) rfl (fun z => by cases z)) (k p l e s m args below meth c D ad ck H locs ls C P S A)
theorem r_istore_0 {q : MI} {pc : Nat} {st : List Value} {h h' : Wd} {r : Option Value} {a : Value} {t : List Value} {x : Int32} (hd : decode (mb q) pc = .ok (.istore_n 0, 1)) (hn : 0 < mn q) (k : WW q (pc + 1) (.int x :: t) st h r h') : WW q pc (a :: t) (.int x :: st) h r h' := by
  intro p l e s m args below meth c D ad ck H locs ls C P S A
  exact lv_istore_n C.1 C.2.1 hd rfl A hn rfl (fun ls' A' => k p l e s m args below meth c D ad ck H locs ls' C P S (Has.set1 (X := []) (a := a) (v := .int x) (t := t) rfl (fun w hw => by cases hw) A'))
theorem r_astore_0 {q : MI} {pc : Nat} {st : List Value} {h h' : Wd} {r : Option Value} {a : Value} {t : List Value} {x : Nat} (hd : decode (mb q) pc = .ok (.astore_n 0, 1)) (hn : 0 < mn q) (k : WW q (pc + 1) (.ref x :: t) st h r h') : WW q pc (a :: t) (.ref x :: st) h r h' := by
  intro p l e s m args below meth c D ad ck H locs ls C P S A
  exact lv_astore_n C.1 C.2.1 hd rfl A hn rfl (fun ls' A' => k p l e s m args below meth c D ad ck H locs ls' C P S (Has.set1 (X := []) (a := a) (v := .ref x) (t := t) rfl (fun w hw => by cases hw) A'))
theorem r_lstore_0 {q : MI} {pc : Nat} {st : List Value} {h h' : Wd} {r : Option Value} {a b : Value} {t : List Value} {x : Int64} (hd : decode (mb q) pc = .ok (.lstore_n 0, 1)) (hn : 0 + 1 < mn q) (k : WW q (pc + 1) (.long x :: .null :: t) st h r h') : WW q pc (a :: b :: t) (.long x :: st) h r h' := by
  intro p l e s m args below meth c D ad ck H locs ls C P S A
  exact lv_lstore_n C.1 C.2.1 hd rfl A hn rfl (fun ls' A' => k p l e s m args below meth c D ad ck H locs ls' C P S (Has.set2 (X := []) (a := a) (b := b) (v := .long x) (t := t) rfl (fun w hw => by cases hw) A'))
theorem r_iinc_0 {q : MI} {pc : Nat} {st : List Value} {h h' : Wd} {r : Option Value} {t : List Value} {x : Int32} {n : Int} (v : Int32) (hd : decode (mb q) pc = .ok (.iinc 0 n, 3)) (hv : Int32.ofInt n = v) (hn : 0 < mn q) (k : WW q (pc + 3) (.int (x + v) :: t) st h r h') : WW q pc (.int x :: t) st h r h' := by
  intro p l e s m args below meth c D ad ck H locs ls C P S A
  obtain ⟨kk, hkk2⟩ := asc_ix (X := []) (t := t) (x := x) (ad := ad)
  exact lv_iinc (v := x + v) C.1 C.2.1 hd A hkk2 (by rw [hv]) hn rfl (fun ls' A' => k p l e s m args below meth c D ad ck H locs ls' C P S (Has.set1 (X := []) (a := .int x) (v := .int (x + v)) (t := t) rfl (fun w hw => by cases hw) A'))
theorem r_iload_1 {q : MI} {pc : Nat} {st : List Value} {h h' : Wd} {r : Option Value} {a0 : Value} {t : List Value} {x : Int32} (hd : decode (mb q) pc = .ok (.iload_n 1, 1))  (k : WW q (pc + 1) (a0 :: .int x :: t) (.int x :: st) h r h') : WW q pc (a0 :: .int x :: t) st h r h' := by
  intro p l e s m args below meth c D ad ck H locs ls C P S A
  exact lv_iload_n C.1 C.2.1 (i := 1) hd rfl (A.mid (X := [a0]) rfl (fun z => by cases z)) (k p l e s m args below meth c D ad ck H locs ls C P S A)
theorem r_lload_1 {q : MI} {pc : Nat} {st : List Value} {h h' : Wd} {r : Option Value} {a0 : Value} {t : List Value} {x : Int64} (hd : decode (mb q) pc = .ok (.lload_n 1, 1))  (k : WW q (pc + 1) (a0 :: .long x :: t) (.long x :: st) h r h') : WW q pc (a0 :: .long x :: t) st h r h' := by
  intro p l e s m args below meth c D ad ck H locs ls C P S A
  exact lv_lload_n C.1 C.2.1 (i := 1) hd rfl (A.mid (X := [a0]) rfl (fun z => by cases z)) (k p l e s m args below meth c D ad ck H locs ls C P S A)
theorem r_aload_1 {q : MI} {pc : Nat} {st : List Value} {h h' : Wd} {r : Option Value} {a0 : Value} {t : List Value} {x : Nat} (hd : decode (mb q) pc = .ok (.aload_n 1, 1))  (k : WW q (pc + 1) (a0 :: .ref x :: t) (.ref x :: st) h r h') : WW q pc (a0 :: .ref x :: t) st h r h' := by
  intro p l e s m args below meth c D ad ck H locs ls C P S A
  exact lv_aload_n C.1 C.2.1 (i := 1) hd rfl (A.mid (X := [a0]) rfl (fun z => by cases z)) (k p l e s m args below meth c D ad ck H locs ls C P S A)
theorem r_istore_1 {q : MI} {pc : Nat} {st : List Value} {h h' : Wd} {r : Option Value} {a0 : Value} {a : Value} {t : List Value} {x : Int32} (hd : decode (mb q) pc = .ok (.istore_n 1, 1)) (hc : a0.category = 1) (hn : 1 < mn q) (k : WW q (pc + 1) (a0 :: .int x :: t) st h r h') : WW q pc (a0 :: a :: t) (.int x :: st) h r h' := by
  intro p l e s m args below meth c D ad ck H locs ls C P S A
  exact lv_istore_n C.1 C.2.1 hd rfl A hn rfl (fun ls' A' => k p l e s m args below meth c D ad ck H locs ls' C P S (Has.set1 (X := [a0]) (a := a) (v := .int x) (t := t) rfl (fun w hw => by cases hw; exact hc) A'))
theorem r_astore_1 {q : MI} {pc : Nat} {st : List Value} {h h' : Wd} {r : Option Value} {a0 : Value} {a : Value} {t : List Value} {x : Nat} (hd : decode (mb q) pc = .ok (.astore_n 1, 1)) (hc : a0.category = 1) (hn : 1 < mn q) (k : WW q (pc + 1) (a0 :: .ref x :: t) st h r h') : WW q pc (a0 :: a :: t) (.ref x :: st) h r h' := by
  intro p l e s m args below meth c D ad ck H locs ls C P S A
  exact lv_astore_n C.1 C.2.1 hd rfl A hn rfl (fun ls' A' => k p l e s m args below meth c D ad ck H locs ls' C P S (Has.set1 (X := [a0]) (a := a) (v := .ref x) (t := t) rfl (fun w hw => by cases hw; exact hc) A'))
theorem r_lstore_1 {q : MI} {pc : Nat} {st : List Value} {h h' : Wd} {r : Option Value} {a0 : Value} {a b : Value} {t : List Value} {x : Int64} (hd : decode (mb q) pc = .ok (.lstore_n 1, 1)) (hc : a0.category = 1) (hn : 1 + 1 < mn q) (k : WW q (pc + 1) (a0 :: .long x :: .null :: t) st h r h') : WW q pc (a0 :: a :: b :: t) (.long x :: st) h r h' := by
  intro p l e s m args below meth c D ad ck H locs ls C P S A
  exact lv_lstore_n C.1 C.2.1 hd rfl A hn rfl (fun ls' A' => k p l e s m args below meth c D ad ck H locs ls' C P S (Has.set2 (X := [a0]) (a := a) (b := b) (v := .long x) (t := t) rfl (fun w hw => by cases hw; exact hc) A'))
theorem r_iinc_1 {q : MI} {pc : Nat} {st : List Value} {h h' : Wd} {r : Option Value} {a0 : Value} {t : List Value} {x : Int32} {n : Int} (v : Int32) (hd : decode (mb q) pc = .ok (.iinc 1 n, 3)) (hv : Int32.ofInt n = v) (hc : a0.category = 1) (hn : 1 < mn q) (k : WW q (pc + 3) (a0 :: .int (x + v) :: t) st h r h') : WW q pc (a0 :: .int x :: t) st h r h' := by
  intro p l e s m args below meth c D ad ck H locs ls C P S A
  obtain ⟨kk, hkk2⟩ := asc_ix (X := [a0]) (t := t) (x := x) (ad := ad)
  exact lv_iinc (v := x + v) C.1 C.2.1 hd A hkk2 (by rw [hv]) hn rfl (fun ls' A' => k p l e s m args below meth c D ad ck H locs ls' C P S (Has.set1 (X := [a0]) (a := .int x) (v := .int (x + v)) (t := t) rfl (fun w hw => by cases hw; exact hc) A'))
theorem r_iload_2 {q : MI} {pc : Nat} {st : List Value} {h h' : Wd} {r : Option Value} {a0 a1 : Value} {t : List Value} {x : Int32} (hd : decode (mb q) pc = .ok (.iload_n 2, 1))  (k : WW q (pc + 1) (a0 :: a1 :: .int x :: t) (.int x :: st) h r h') : WW q pc (a0 :: a1 :: .int x :: t) st h r h' := by
  intro p l e s m args below meth c D ad ck H locs ls C P S A
  exact lv_iload_n C.1 C.2.1 (i := 2) hd rfl (A.mid (X := [a0, a1]) rfl (fun z => by cases z)) (k p l e s m args below meth c D ad ck H locs ls C P S A)
theorem r_lload_2 {q : MI} {pc : Nat} {st : List Value} {h h' : Wd} {r : Option Value} {a0 a1 : Value} {t : List Value} {x : Int64} (hd : decode (mb q) pc = .ok (.lload_n 2, 1))  (k : WW q (pc + 1) (a0 :: a1 :: .long x :: t) (.long x :: st) h r h') : WW q pc (a0 :: a1 :: .long x :: t) st h r h' := by
  intro p l e s m args below meth c D ad ck H locs ls C P S A
  exact lv_lload_n C.1 C.2.1 (i := 2) hd rfl (A.mid (X := [a0, a1]) rfl (fun z => by cases z)) (k p l e s m args below meth c D ad ck H locs ls C P S A)
theorem r_aload_2 {q : MI} {pc : Nat} {st : List Value} {h h' : Wd} {r : Option Value} {a0 a1 : Value} {t : List Value} {x : Nat} (hd : decode (mb q) pc = .ok (.aload_n 2, 1))  (k : WW q (pc + 1) (a0 :: a1 :: .ref x :: t) (.ref x :: st) h r h') : WW q pc (a0 :: a1 :: .ref x :: t) st h r h' := by
  intro p l e s m args below meth c D ad ck H locs ls C P S A
  exact lv_aload_n C.1 C.2.1 (i := 2) hd rfl (A.mid (X := [a0, a1]) rfl (fun z => by cases z)) (k p l e s m args below meth c D ad ck H locs ls C P S A)
theorem r_istore_2 {q : MI} {pc : Nat} {st : List Value} {h h' : Wd} {r : Option Value} {a0 a1 : Value} {a : Value} {t : List Value} {x : Int32} (hd : decode (mb q) pc = .ok (.istore_n 2, 1)) (hc : a1.category = 1) (hn : 2 < mn q) (k : WW q (pc + 1) (a0 :: a1 :: .int x :: t) st h r h') : WW q pc (a0 :: a1 :: a :: t) (.int x :: st) h r h' := by
  intro p l e s m args below meth c D ad ck H locs ls C P S A
  exact lv_istore_n C.1 C.2.1 hd rfl A hn rfl (fun ls' A' => k p l e s m args below meth c D ad ck H locs ls' C P S (Has.set1 (X := [a0, a1]) (a := a) (v := .int x) (t := t) rfl (fun w hw => by cases hw; exact hc) A'))
theorem r_astore_2 {q : MI} {pc : Nat} {st : List Value} {h h' : Wd} {r : Option Value} {a0 a1 : Value} {a : Value} {t : List Value} {x : Nat} (hd : decode (mb q) pc = .ok (.astore_n 2, 1)) (hc : a1.category = 1) (hn : 2 < mn q) (k : WW q (pc + 1) (a0 :: a1 :: .ref x :: t) st h r h') : WW q pc (a0 :: a1 :: a :: t) (.ref x :: st) h r h' := by
  intro p l e s m args below meth c D ad ck H locs ls C P S A
  exact lv_astore_n C.1 C.2.1 hd rfl A hn rfl (fun ls' A' => k p l e s m args below meth c D ad ck H locs ls' C P S (Has.set1 (X := [a0, a1]) (a := a) (v := .ref x) (t := t) rfl (fun w hw => by cases hw; exact hc) A'))
theorem r_lstore_2 {q : MI} {pc : Nat} {st : List Value} {h h' : Wd} {r : Option Value} {a0 a1 : Value} {a b : Value} {t : List Value} {x : Int64} (hd : decode (mb q) pc = .ok (.lstore_n 2, 1)) (hc : a1.category = 1) (hn : 2 + 1 < mn q) (k : WW q (pc + 1) (a0 :: a1 :: .long x :: .null :: t) st h r h') : WW q pc (a0 :: a1 :: a :: b :: t) (.long x :: st) h r h' := by
  intro p l e s m args below meth c D ad ck H locs ls C P S A
  exact lv_lstore_n C.1 C.2.1 hd rfl A hn rfl (fun ls' A' => k p l e s m args below meth c D ad ck H locs ls' C P S (Has.set2 (X := [a0, a1]) (a := a) (b := b) (v := .long x) (t := t) rfl (fun w hw => by cases hw; exact hc) A'))
theorem r_iinc_2 {q : MI} {pc : Nat} {st : List Value} {h h' : Wd} {r : Option Value} {a0 a1 : Value} {t : List Value} {x : Int32} {n : Int} (v : Int32) (hd : decode (mb q) pc = .ok (.iinc 2 n, 3)) (hv : Int32.ofInt n = v) (hc : a1.category = 1) (hn : 2 < mn q) (k : WW q (pc + 3) (a0 :: a1 :: .int (x + v) :: t) st h r h') : WW q pc (a0 :: a1 :: .int x :: t) st h r h' := by
  intro p l e s m args below meth c D ad ck H locs ls C P S A
  obtain ⟨kk, hkk2⟩ := asc_ix (X := [a0, a1]) (t := t) (x := x) (ad := ad)
  exact lv_iinc (v := x + v) C.1 C.2.1 hd A hkk2 (by rw [hv]) hn rfl (fun ls' A' => k p l e s m args below meth c D ad ck H locs ls' C P S (Has.set1 (X := [a0, a1]) (a := .int x) (v := .int (x + v)) (t := t) rfl (fun w hw => by cases hw; exact hc) A'))
theorem r_iload_3 {q : MI} {pc : Nat} {st : List Value} {h h' : Wd} {r : Option Value} {a0 a1 a2 : Value} {t : List Value} {x : Int32} (hd : decode (mb q) pc = .ok (.iload_n 3, 1))  (k : WW q (pc + 1) (a0 :: a1 :: a2 :: .int x :: t) (.int x :: st) h r h') : WW q pc (a0 :: a1 :: a2 :: .int x :: t) st h r h' := by
  intro p l e s m args below meth c D ad ck H locs ls C P S A
  exact lv_iload_n C.1 C.2.1 (i := 3) hd rfl (A.mid (X := [a0, a1, a2]) rfl (fun z => by cases z)) (k p l e s m args below meth c D ad ck H locs ls C P S A)
theorem r_lload_3 {q : MI} {pc : Nat} {st : List Value} {h h' : Wd} {r : Option Value} {a0 a1 a2 : Value} {t : List Value} {x : Int64} (hd : decode (mb q) pc = .ok (.lload_n 3, 1))  (k : WW q (pc + 1) (a0 :: a1 :: a2 :: .long x :: t) (.long x :: st) h r h') : WW q pc (a0 :: a1 :: a2 :: .long x :: t) st h r h' := by
  intro p l e s m args below meth c D ad ck H locs ls C P S A
  exact lv_lload_n C.1 C.2.1 (i := 3) hd rfl (A.mid (X := [a0, a1, a2]) rfl (fun z => by cases z)) (k p l e s m args below meth c D ad ck H locs ls C P S A)
theorem r_aload_3 {q : MI} {pc : Nat} {st : List Value} {h h' : Wd} {r : Option Value} {a0 a1 a2 : Value} {t : List Value} {x : Nat} (hd : decode (mb q) pc = .ok (.aload_n 3, 1))  (k : WW q (pc + 1) (a0 :: a1 :: a2 :: .ref x :: t) (.ref x :: st) h r h') : WW q pc (a0 :: a1 :: a2 :: .ref x :: t) st h r h' := by
  intro p l e s m args below meth c D ad ck H locs ls C P S A
  exact lv_aload_n C.1 C.2.1 (i := 3) hd rfl (A.mid (X := [a0, a1, a2]) rfl (fun z => by cases z)) (k p l e s m args below meth c D ad ck H locs ls C P S A)
theorem r_istore_3 {q : MI} {pc : Nat} {st : List Value} {h h' : Wd} {r : Option Value} {a0 a1 a2 : Value} {a : Value} {t : List Value} {x : Int32} (hd : decode (mb q) pc = .ok (.istore_n 3, 1)) (hc : a2.category = 1) (hn : 3 < mn q) (k : WW q (pc + 1) (a0 :: a1 :: a2 :: .int x :: t) st h r h') : WW q pc (a0 :: a1 :: a2 :: a :: t) (.int x :: st) h r h' := by
  intro p l e s m args below meth c D ad ck H locs ls C P S A
  exact lv_istore_n C.1 C.2.1 hd rfl A hn rfl (fun ls' A' => k p l e s m args below meth c D ad ck H locs ls' C P S (Has.set1 (X := [a0, a1, a2]) (a := a) (v := .int x) (t := t) rfl (fun w hw => by cases hw; exact hc) A'))
theorem r_astore_3 {q : MI} {pc : Nat} {st : List Value} {h h' : Wd} {r : Option Value} {a0 a1 a2 : Value} {a : Value} {t : List Value} {x : Nat} (hd : decode (mb q) pc = .ok (.astore_n 3, 1)) (hc : a2.category = 1) (hn : 3 < mn q) (k : WW q (pc + 1) (a0 :: a1 :: a2 :: .ref x :: t) st h r h') : WW q pc (a0 :: a1 :: a2 :: a :: t) (.ref x :: st) h r h' := by
  intro p l e s m args below meth c D ad ck H locs ls C P S A
  exact lv_astore_n C.1 C.2.1 hd rfl A hn rfl (fun ls' A' => k p l e s m args below meth c D ad ck H locs ls' C P S (Has.set1 (X := [a0, a1, a2]) (a := a) (v := .ref x) (t := t) rfl (fun w hw => by cases hw; exact hc) A'))
theorem r_lstore_3 {q : MI} {pc : Nat} {st : List Value} {h h' : Wd} {r : Option Value} {a0 a1 a2 : Value} {a b : Value} {t : List Value} {x : Int64} (hd : decode (mb q) pc = .ok (.lstore_n 3, 1)) (hc : a2.category = 1) (hn : 3 + 1 < mn q) (k : WW q (pc + 1) (a0 :: a1 :: a2 :: .long x :: .null :: t) st h r h') : WW q pc (a0 :: a1 :: a2 :: a :: b :: t) (.long x :: st) h r h' := by
  intro p l e s m args below meth c D ad ck H locs ls C P S A
  exact lv_lstore_n C.1 C.2.1 hd rfl A hn rfl (fun ls' A' => k p l e s m args below meth c D ad ck H locs ls' C P S (Has.set2 (X := [a0, a1, a2]) (a := a) (b := b) (v := .long x) (t := t) rfl (fun w hw => by cases hw; exact hc) A'))
theorem r_iinc_3 {q : MI} {pc : Nat} {st : List Value} {h h' : Wd} {r : Option Value} {a0 a1 a2 : Value} {t : List Value} {x : Int32} {n : Int} (v : Int32) (hd : decode (mb q) pc = .ok (.iinc 3 n, 3)) (hv : Int32.ofInt n = v) (hc : a2.category = 1) (hn : 3 < mn q) (k : WW q (pc + 3) (a0 :: a1 :: a2 :: .int (x + v) :: t) st h r h') : WW q pc (a0 :: a1 :: a2 :: .int x :: t) st h r h' := by
  intro p l e s m args below meth c D ad ck H locs ls C P S A
  obtain ⟨kk, hkk2⟩ := asc_ix (X := [a0, a1, a2]) (t := t) (x := x) (ad := ad)
  exact lv_iinc (v := x + v) C.1 C.2.1 hd A hkk2 (by rw [hv]) hn rfl (fun ls' A' => k p l e s m args below meth c D ad ck H locs ls' C P S (Has.set1 (X := [a0, a1, a2]) (a := .int x) (v := .int (x + v)) (t := t) rfl (fun w hw => by cases hw; exact hc) A'))
theorem r_iload_4 {q : MI} {pc : Nat} {st : List Value} {h h' : Wd} {r : Option Value} {a0 a1 a2 a3 : Value} {t : List Value} {x : Int32} (hd : decode (mb q) pc = .ok (.iload 4, 2))  (k : WW q (pc + 2) (a0 :: a1 :: a2 :: a3 :: .int x :: t) (.int x :: st) h r h') : WW q pc (a0 :: a1 :: a2 :: a3 :: .int x :: t) st h r h' := by
  intro p l e s m args below meth c D ad ck H locs ls C P S A
  exact lv_iload C.1 C.2.1 hd (A.mid (X := [a0, a1, a2, a3]) rfl (fun z => by cases z)) (k p l e s m args below meth c D ad ck H locs ls C P S A)
theorem r_lload_4 {q : MI} {pc : Nat} {st : List Value} {h h' : Wd} {r : Option Value} {a0 a1 a2 a3 : Value} {t : List Value} {x : Int64} (hd : decode (mb q) pc = .ok (.lload 4, 2))  (k : WW q (pc + 2) (a0 :: a1 :: a2 :: a3 :: .long x :: t) (.long x :: st) h r h') : WW q pc (a0 :: a1 :: a2 :: a3 :: .long x :: t) st h r h' := by
  intro p l e s m args below meth c D ad ck H locs ls C P S A
  exact lv_lload C.1 C.2.1 hd (A.mid (X := [a0, a1, a2, a3]) rfl (fun z => by cases z)) (k p l e s m args below meth c D ad ck H locs ls C P S A)
theorem r_aload_4 {q : MI} {pc : Nat} {st : List Value} {h h' : Wd} {r : Option Value} {a0 a1 a2 a3 : Value} {t : List Value} {x : Nat} (hd : decode (mb q) pc = .ok (.aload 4, 2))  (k : WW q (pc + 2) (a0 :: a1 :: a2 :: a3 :: .ref x :: t) (.ref x :: st) h r h') : WW q pc (a0 :: a1 :: a2 :: a3 :: .ref x :: t) st h r h' := by
  intro p l e s m args below meth c D ad ck H locs ls C P S A
  exact lv_aload C.1 C.2.1 hd (A.mid (X := [a0, a1, a2, a3]) rfl (fun z => by cases z)) (k p l e s m args below meth c D ad ck H locs ls C P S A)
theorem r_istore_4 {q : MI} {pc : Nat} {st : List Value} {h h' : Wd} {r : Option Value} {a0 a1 a2 a3 : Value} {a : Value} {t : List Value} {x : Int32} (hd : decode (mb q) pc = .ok (.istore 4, 2)) (hc : a3.category = 1) (hn : 4 < mn q) (k : WW q (pc + 2) (a0 :: a1 :: a2 :: a3 :: .int x :: t) st h r h') : WW q pc (a0 :: a1 :: a2 :: a3 :: a :: t) (.int x :: st) h r h' := by
  intro p l e s m args below meth c D ad ck H locs ls C P S A
  exact lv_istore C.1 C.2.1 hd A hn rfl (fun ls' A' => k p l e s m args below meth c D ad ck H locs ls' C P S (Has.set1 (X := [a0, a1, a2, a3]) (a := a) (v := .int x) (t := t) rfl (fun w hw => by cases hw; exact hc) A'))
theorem r_astore_4 {q : MI} {pc : Nat} {st : List Value} {h h' : Wd} {r : Option Value} {a0 a1 a2 a3 : Value} {a : Value} {t : List Value} {x : Nat} (hd : decode (mb q) pc = .ok (.astore 4, 2)) (hc : a3.category = 1) (hn : 4 < mn q) (k : WW q (pc + 2) (a0 :: a1 :: a2 :: a3 :: .ref x :: t) st h r h') : WW q pc (a0 :: a1 :: a2 :: a3 :: a :: t) (.ref x :: st) h r h' := by
  intro p l e s m args below meth c D ad ck H locs ls C P S A
  exact lv_astore C.1 C.2.1 hd A hn rfl (fun ls' A' => k p l e s m args below meth c D ad ck H locs ls' C P S (Has.set1 (X := [a0, a1, a2, a3]) (a := a) (v := .ref x) (t := t) rfl (fun w hw => by cases hw; exact hc) A'))
theorem r_lstore_4 {q : MI} {pc : Nat} {st : List Value} {h h' : Wd} {r : Option Value} {a0 a1 a2 a3 : Value} {a b : Value} {t : List Value} {x : Int64} (hd : decode (mb q) pc = .ok (.lstore 4, 2)) (hc : a3.category = 1) (hn : 4 + 1 < mn q) (k : WW q (pc + 2) (a0 :: a1 :: a2 :: a3 :: .long x :: .null :: t) st h r h') : WW q pc (a0 :: a1 :: a2 :: a3 :: a :: b :: t) (.long x :: st) h r h' := by
  intro p l e s m args below meth c D ad ck H locs ls C P S A
  exact lv_lstore C.1 C.2.1 hd A hn rfl (fun ls' A' => k p l e s m args below meth c D ad ck H locs ls' C P S (Has.set2 (X := [a0, a1, a2, a3]) (a := a) (b := b) (v := .long x) (t := t) rfl (fun w hw => by cases hw; exact hc) A'))
theorem r_iinc_4 {q : MI} {pc : Nat} {st : List Value} {h h' : Wd} {r : Option Value} {a0 a1 a2 a3 : Value} {t : List Value} {x : Int32} {n : Int} (v : Int32) (hd : decode (mb q) pc = .ok (.iinc 4 n, 3)) (hv : Int32.ofInt n = v) (hc : a3.category = 1) (hn : 4 < mn q) (k : WW q (pc + 3) (a0 :: a1 :: a2 :: a3 :: .int (x + v) :: t) st h r h') : WW q pc (a0 :: a1 :: a2 :: a3 :: .int x :: t) st h r h' := by
  intro p l e s m args below meth c D ad ck H locs ls C P S A
  obtain ⟨kk, hkk2⟩ := asc_ix (X := [a0, a1, a2, a3]) (t := t) (x := x) (ad := ad)
  exact lv_iinc (v := x + v) C.1 C.2.1 hd A hkk2 (by rw [hv]) hn rfl (fun ls' A' => k p l e s m args below meth c D ad ck H locs ls' C P S (Has.set1 (X := [a0, a1, a2, a3]) (a := .int x) (v := .int (x + v)) (t := t) rfl (fun w hw => by cases hw; exact hc) A'))
theorem r_iload_5 {q : MI} {pc : Nat} {st : List Value} {h h' : Wd} {r : Option Value} {a0 a1 a2 a3 a4 : Value} {t : List Value} {x : Int32} (hd : decode (mb q) pc = .ok (.iload 5, 2))  (k : WW q (pc + 2) (a0 :: a1 :: a2 :: a3 :: a4 :: .int x :: t) (.int x :: st) h r h') : WW q pc (a0 :: a1 :: a2 :: a3 :: a4 :: .int x :: t) st h r h' := by
  intro p l e s m args below meth c D ad ck H locs ls C P S A
  exact lv_iload C.1 C.2.1 hd (A.mid (X := [a0, a1, a2, a3, a4]) rfl (fun z => by cases z)) (k p l e s m args below meth c D ad ck H locs ls C P S A)
theorem r_lload_5 {q : MI} {pc : Nat} {st : List Value} {h h' : Wd} {r : Option Value} {a0 a1 a2 a3 a4 : Value} {t : List Value} {x : Int64} (hd : decode (mb q) pc = .ok (.lload 5, 2))  (k : WW q (pc + 2) (a0 :: a1 :: a2 :: a3 :: a4 :: .long x :: t) (.long x :: st) h r h') : WW q pc (a0 :: a1 :: a2 :: a3 :: a4 :: .long x :: t) st h r h' := by
  intro p l e s m args below meth c D ad ck H locs ls C P S A
  exact lv_lload C.1 C.2.1 hd (A.mid (X := [a0, a1, a2, a3, a4]) rfl (fun z => by cases z)) (k p l e s m args below meth c D ad ck H locs ls C P S A)
theorem r_aload_5 {q : MI} {pc : Nat} {st : List Value} {h h' : Wd} {r : Option Value} {a0 a1 a2 a3 a4 : Value} {t : List Value} {x : Nat} (hd : decode (mb q) pc = .ok (.aload 5, 2))  (k : WW q (pc + 2) (a0 :: a1 :: a2 :: a3 :: a4 :: .ref x :: t) (.ref x :: st) h r h') : WW q pc (a0 :: a1 :: a2 :: a3 :: a4 :: .ref x :: t) st h r h' := by
  intro p l e s m args below meth c D ad ck H locs ls C P S A
  exact lv_aload C.1 C.2.1 hd (A.mid (X := [a0, a1, a2, a3, a4]) rfl (fun z => by cases z)) (k p l e s m args below meth c D ad ck H locs ls C P S A)
theorem r_istore_5 {q : MI} {pc : Nat} {st : List Value} {h h' : Wd} {r : Option Value} {a0 a1 a2 a3 a4 : Value} {a : Value} {t : List Value} {x : Int32} (hd : decode (mb q) pc = .ok (.istore 5, 2)) (hc : a4.category = 1) (hn : 5 < mn q) (k : WW q (pc + 2) (a0 :: a1 :: a2 :: a3 :: a4 :: .int x :: t) st h r h') : WW q pc (a0 :: a1 :: a2 :: a3 :: a4 :: a :: t) (.int x :: st) h r h' := by
  intro p l e s m args below meth c D ad ck H locs ls C P S A
  exact lv_istore C.1 C.2.1 hd A hn rfl (fun ls' A' => k p l e s m args below meth c D ad ck H locs ls' C P S (Has.set1 (X := [a0, a1, a2, a3, a4]) (a := a) (v := .int x) (t := t) rfl (fun w hw => by cases hw; exact hc) A'))
theorem r_astore_5 {q : MI} {pc : Nat} {st : List Value} {h h' : Wd} {r : Option Value} {a0 a1 a2 a3 a4 : Value} {a : Value} {t : List Value} {x : Nat} (hd : decode (mb q) pc = .ok (.astore 5, 2)) (hc : a4.category = 1) (hn : 5 < mn q) (k : WW q (pc + 2) (a0 :: a1 :: a2 :: a3 :: a4 :: .ref x :: t) st h r h') : WW q pc (a0 :: a1 :: a2 :: a3 :: a4 :: a :: t) (.ref x :: st) h r h' := by
  intro p l e s m args below meth c D ad ck H locs ls C P S A
  exact lv_astore C.1 C.2.1 hd A hn rfl (fun ls' A' => k p l e s m args below meth c D ad ck H locs ls' C P S (Has.set1 (X := [a0, a1, a2, a3, a4]) (a := a) (v := .ref x) (t := t) rfl (fun w hw => by cases hw; exact hc) A'))
theorem r_lstore_5 {q : MI} {pc : Nat} {st : List Value} {h h' : Wd} {r : Option Value} {a0 a1 a2 a3 a4 : Value} {a b : Value} {t : List Value} {x : Int64} (hd : decode (mb q) pc = .ok (.lstore 5, 2)) (hc : a4.category = 1) (hn : 5 + 1 < mn q) (k : WW q (pc + 2) (a0 :: a1 :: a2 :: a3 :: a4 :: .long x :: .null :: t) st h r h') : WW q pc (a0 :: a1 :: a2 :: a3 :: a4 :: a :: b :: t) (.long x :: st) h r h' := by
  intro p l e s m args below meth c D ad ck H locs ls C P S A
  exact lv_lstore C.1 C.2.1 hd A hn rfl (fun ls' A' => k p l e s m args below meth c D ad ck H locs ls' C P S (Has.set2 (X := [a0, a1, a2, a3, a4]) (a := a) (b := b) (v := .long x) (t := t) rfl (fun w hw => by cases hw; exact hc) A'))
theorem r_iinc_5 {q : MI} {pc : Nat} {st : List Value} {h h' : Wd} {r : Option Value} {a0 a1 a2 a3 a4 : Value} {t : List Value} {x : Int32} {n : Int} (v : Int32) (hd : decode (mb q) pc = .ok (.iinc 5 n, 3)) (hv : Int32.ofInt n = v) (hc : a4.category = 1) (hn : 5 < mn q) (k : WW q (pc + 3) (a0 :: a1 :: a2 :: a3 :: a4 :: .int (x + v) :: t) st h r h') : WW q pc (a0 :: a1 :: a2 :: a3 :: a4 :: .int x :: t) st h r h' := by
  intro p l e s m args below meth c D ad ck H locs ls C P S A
  obtain ⟨kk, hkk2⟩ := asc_ix (X := [a0, a1, a2, a3, a4]) (t := t) (x := x) (ad := ad)
  exact lv_iinc (v := x + v) C.1 C.2.1 hd A hkk2 (by rw [hv]) hn rfl (fun ls' A' => k p l e s m args below meth c D ad ck H locs ls' C P S (Has.set1 (X := [a0, a1, a2, a3, a4]) (a := .int x) (v := .int (x + v)) (t := t) rfl (fun w hw => by cases hw; exact hc) A'))
theorem r_iload_6 {q : MI} {pc : Nat} {st : List Value} {h h' : Wd} {r : Option Value} {a0 a1 a2 a3 a4 a5 : Value} {t : List Value} {x : Int32} (hd : decode (mb q) pc = .ok (.iload 6, 2))  (k : WW q (pc + 2) (a0 :: a1 :: a2 :: a3 :: a4 :: a5 :: .int x :: t) (.int x :: st) h r h') : WW q pc (a0 :: a1 :: a2 :: a3 :: a4 :: a5 :: .int x :: t) st h r h' := by
  intro p l e s m args below meth c D ad ck H locs ls C P S A
  exact lv_iload C.1 C.2.1 hd (A.mid (X := [a0, a1, a2, a3, a4, a5]) rfl (fun z => by cases z)) (k p l e s m args below meth c D ad ck H locs ls C P S A)
theorem r_lload_6 {q : MI} {pc : Nat} {st : List Value} {h h' : Wd} {r : Option Value} {a0 a1 a2 a3 a4 a5 : Value} {t : List Value} {x : Int64} (hd : decode (mb q) pc = .ok (.lload 6, 2))  (k : WW q (pc + 2) (a0 :: a1 :: a2 :: a3 :: a4 :: a5 :: .long x :: t) (.long x :: st) h r h') : WW q pc (a0 :: a1 :: a2 :: a3 :: a4 :: a5 :: .long x :: t) st h r h' := by
  intro p l e s m args below meth c D ad ck H locs ls C P S A
  exact lv_lload C.1 C.2.1 hd (A.mid (X := [a0, a1, a2, a3, a4, a5]) rfl (fun z => by cases z)) (k p l e s m args below meth c D ad ck H locs ls C P S A)
theorem r_aload_6 {q : MI} {pc : Nat} {st : List Value} {h h' : Wd} {r : Option Value} {a0 a1 a2 a3 a4 a5 : Value} {t : List Value} {x : Nat} (hd : decode (mb q) pc = .ok (.aload 6, 2))  (k : WW q (pc + 2) (a0 :: a1 :: a2 :: a3 :: a4 :: a5 :: .ref x :: t) (.ref x :: st) h r h') : WW q pc (a0 :: a1 :: a2 :: a3 :: a4 :: a5 :: .ref x :: t) st h r h' := by
  intro p l e s m args below meth c D ad ck H locs ls C P S A
  exact lv_aload C.1 C.2.1 hd (A.mid (X := [a0, a1, a2, a3, a4, a5]) rfl (fun z => by cases z)) (k p l e s m args below meth c D ad ck H locs ls C P S A)
theorem r_istore_6 {q : MI} {pc : Nat} {st : List Value} {h h' : Wd} {r : Option Value} {a0 a1 a2 a3 a4 a5 : Value} {a : Value} {t : List Value} {x : Int32} (hd : decode (mb q) pc = .ok (.istore 6, 2)) (hc : a5.category = 1) (hn : 6 < mn q) (k : WW q (pc + 2) (a0 :: a1 :: a2 :: a3 :: a4 :: a5 :: .int x :: t) st h r h') : WW q pc (a0 :: a1 :: a2 :: a3 :: a4 :: a5 :: a :: t) (.int x :: st) h r h' := by
  intro p l e s m args below meth c D ad ck H locs ls C P S A
  exact lv_istore C.1 C.2.1 hd A hn rfl (fun ls' A' => k p l e s m args below meth c D ad ck H locs ls' C P S (Has.set1 (X := [a0, a1, a2, a3, a4, a5]) (a := a) (v := .int x) (t := t) rfl (fun w hw => by cases hw; exact hc) A'))
theorem r_astore_6 {q : MI} {pc : Nat} {st : List Value} {h h' : Wd} {r : Option Value} {a0 a1 a2 a3 a4 a5 : Value} {a : Value} {t : List Value} {x : Nat} (hd : decode (mb q) pc = .ok (.astore 6, 2)) (hc : a5.category = 1) (hn : 6 < mn q) (k : WW q (pc + 2) (a0 :: a1 :: a2 :: a3 :: a4 :: a5 :: .ref x :: t) st h r h') : WW q pc (a0 :: a1 :: a2 :: a3 :: a4 :: a5 :: a :: t) (.ref x :: st) h r h' := by
  intro p l e s m args below meth c D ad ck H locs ls C P S A
  exact lv_astore C.1 C.2.1 hd A hn rfl (fun ls' A' => k p l e s m args below meth c D ad ck H locs ls' C P S (Has.set1 (X := [a0, a1, a2, a3, a4, a5]) (a := a) (v := .ref x) (t := t) rfl (fun w hw => by cases hw; exact hc) A'))
theorem r_lstore_6 {q : MI} {pc : Nat} {st : List Value} {h h' : Wd} {r : Option Value} {a0 a1 a2 a3 a4 a5 : Value} {a b : Value} {t : List Value} {x : Int64} (hd : decode (mb q) pc = .ok (.lstore 6, 2)) (hc : a5.category = 1) (hn : 6 + 1 < mn q) (k : WW q (pc + 2) (a0 :: a1 :: a2 :: a3 :: a4 :: a5 :: .long x :: .null :: t) st h r h') : WW q pc (a0 :: a1 :: a2 :: a3 :: a4 :: a5 :: a :: b :: t) (.long x :: st) h r h' := by
  intro p l e s m args below meth c D ad ck H locs ls C P S A
  exact lv_lstore C.1 C.2.1 hd A hn rfl (fun ls' A' => k p l e s m args below meth c D ad ck H locs ls' C P S (Has.set2 (X := [a0, a1, a2, a3, a4, a5]) (a := a) (b := b) (v := .long x) (t := t) rfl (fun w hw => by cases hw; exact hc) A'))
theorem r_iinc_6 {q : MI} {pc : Nat} {st : List Value} {h h' : Wd} {r : Option Value} {a0 a1 a2 a3 a4 a5 : Value} {t : List Value} {x : Int32} {n : Int} (v : Int32) (hd : decode (mb q) pc = .ok (.iinc 6 n, 3)) (hv : Int32.ofInt n = v) (hc : a5.category = 1) (hn : 6 < mn q) (k : WW q (pc + 3) (a0 :: a1 :: a2 :: a3 :: a4 :: a5 :: .int (x + v) :: t) st h r h') : WW q pc (a0 :: a1 :: a2 :: a3 :: a4 :: a5 :: .int x :: t) st h r h' := by
  intro p l e s m args below meth c D ad ck H locs ls C P S A
  obtain ⟨kk, hkk2⟩ := asc_ix (X := [a0, a1, a2, a3, a4, a5]) (t := t) (x := x) (ad := ad)
  exact lv_iinc (v := x + v) C.1 C.2.1 hd A hkk2 (by rw [hv]) hn rfl (fun ls' A' => k p l e s m args below meth c D ad ck H locs ls' C P S (Has.set1 (X := [a0, a1, a2, a3, a4, a5]) (a := .int x) (v := .int (x + v)) (t := t) rfl (fun w hw => by cases hw; exact hc) A'))
theorem r_iload_7 {q : MI} {pc : Nat} {st : List Value} {h h' : Wd} {r : Option Value} {a0 a1 a2 a3 a4 a5 a6 : Value} {t : List Value} {x : Int32} (hd : decode (mb q) pc = .ok (.iload 7, 2))  (k : WW q (pc + 2) (a0 :: a1 :: a2 :: a3 :: a4 :: a5 :: a6 :: .int x :: t) (.int x :: st) h r h') : WW q pc (a0 :: a1 :: a2 :: a3 :: a4 :: a5 :: a6 :: .int x :: t) st h r h' := by
  intro p l e s m args below meth c D ad ck H locs ls C P S A
  exact lv_iload C.1 C.2.1 hd (A.mid (X := [a0, a1, a2, a3, a4, a5, a6]) rfl (fun z => by cases z)) (k p l e s m args below meth c D ad ck H locs ls C P S A)
theorem r_lload_7 {q : MI} {pc : Nat} {st : List Value} {h h' : Wd} {r : Option Value} {a0 a1 a2 a3 a4 a5 a6 : Value} {t : List Value} {x : Int64} (hd : decode (mb q) pc = .ok (.lload 7, 2))  (k : WW q (pc + 2) (a0 :: a1 :: a2 :: a3 :: a4 :: a5 :: a6 :: .long x :: t) (.long x :: st) h r h') : WW q pc (a0 :: a1 :: a2 :: a3 :: a4 :: a5 :: a6 :: .long x :: t) st h r h' := by
  intro p l e s m args below meth c D ad ck H locs ls C P S A
  exact lv_lload C.1 C.2.1 hd (A.mid (X := [a0, a1, a2, a3, a4, a5, a6]) rfl (fun z => by cases z)) (k p l e s m args below meth c D ad ck H locs ls C P S A)
theorem r_aload_7 {q : MI} {pc : Nat} {st : List Value} {h h' : Wd} {r : Option Value} {a0 a1 a2 a3 a4 a5 a6 : Value} {t : List Value} {x : Nat} (hd : decode (mb q) pc = .ok (.aload 7, 2))  (k : WW q (pc + 2) (a0 :: a1 :: a2 :: a3 :: a4 :: a5 :: a6 :: .ref x :: t) (.ref x :: st) h r h') : WW q pc (a0 :: a1 :: a2 :: a3 :: a4 :: a5 :: a6 :: .ref x :: t) st h r h' := by
  intro p l e s m args below meth c D ad ck H locs ls C P S A
  exact lv_aload C.1 C.2.1 hd (A.mid (X := [a0, a1, a2, a3, a4, a5, a6]) rfl (fun z => by cases z)) (k p l e s m args below meth c D ad ck H locs ls C P S A)
theorem r_istore_7 {q : MI} {pc : Nat} {st : List Value} {h h' : Wd} {r : Option Value} {a0 a1 a2 a3 a4 a5 a6 : Value} {a : Value} {t : List Value} {x : Int32} (hd : decode (mb q) pc = .ok (.istore 7, 2)) (hc : a6.category = 1) (hn : 7 < mn q) (k : WW q (pc + 2) (a0 :: a1 :: a2 :: a3 :: a4 :: a5 :: a6 :: .int x :: t) st h r h') : WW q pc (a0 :: a1 :: a2 :: a3 :: a4 :: a5 :: a6 :: a :: t) (.int x :: st) h r h' := by
  intro p l e s m args below meth c D ad ck H locs ls C P S A
  exact lv_istore C.1 C.2.1 hd A hn rfl (fun ls' A' => k p l e s m args below meth c D ad ck H locs ls' C P S (Has.set1 (X := [a0, a1, a2, a3, a4, a5, a6]) (a := a) (v := .int x) (t := t) rfl (fun w hw => by cases hw; exact hc) A'))
theorem r_astore_7 {q : MI} {pc : Nat} {st : List Value} {h h' : Wd} {r : Option Value} {a0 a1 a2 a3 a4 a5 a6 : Value} {a : Value} {t : List Value} {x : Nat} (hd : decode (mb q) pc = .ok (.astore 7, 2)) (hc : a6.category = 1) (hn : 7 < mn q) (k : WW q (pc + 2) (a0 :: a1 :: a2 :: a3 :: a4 :: a5 :: a6 :: .ref x :: t) st h r h') : WW q pc (a0 :: a1 :: a2 :: a3 :: a4 :: a5 :: a6 :: a :: t) (.ref x :: st) h r h' := by
  intro p l e s m args below meth c D ad ck H locs ls C P S A
  exact lv_astore C.1 C.2.1 hd A hn rfl (fun ls' A' => k p l e s m args below meth c D ad ck H locs ls' C P S (Has.set1 (X := [a0, a1, a2, a3, a4, a5, a6]) (a := a) (v := .ref x) (t := t) rfl (fun w hw => by cases hw; exact hc) A'))
theorem r_lstore_7 {q : MI} {pc : Nat} {st : List Value} {h h' : Wd} {r : Option Value} {a0 a1 a2 a3 a4 a5 a6 : Value} {a b : Value} {t : List Value} {x : Int64} (hd : decode (mb q) pc = .ok (.lstore 7, 2)) (hc : a6.category = 1) (hn : 7 + 1 < mn q) (k : WW q (pc + 2) (a0 :: a1 :: a2 :: a3 :: a4 :: a5 :: a6 :: .long x :: .null :: t) st h r h') : WW q pc (a0 :: a1 :: a2 :: a3 :: a4 :: a5 :: a6 :: a :: b :: t) (.long x :: st) h r h' := by
  intro p l e s m args below meth c D ad ck H locs ls C P S A
  exact lv_lstore C.1 C.2.1 hd A hn rfl (fun ls' A' => k p l e s m args below meth c D ad ck H locs ls' C P S (Has.set2 (X := [a0, a1, a2, a3, a4, a5, a6]) (a := a) (b := b) (v := .long x) (t := t) rfl (fun w hw => by cases hw; exact hc) A'))
theorem r_iinc_7 {q : MI} {pc : Nat} {st : List Value} {h h' : Wd} {r : Option Value} {a0 a1 a2 a3 a4 a5 a6 : Value} {t : List Value} {x : Int32} {n : Int} (v : Int32) (hd : decode (mb q) pc = .ok (.iinc 7 n, 3)) (hv : Int32.ofInt n = v) (hc : a6.category = 1) (hn : 7 < mn q) (k : WW q (pc + 3) (a0 :: a1 :: a2 :: a3 :: a4 :: a5 :: a6 :: .int (x + v) :: t) st h r h') : WW q pc (a0 :: a1 :: a2 :: a3 :: a4 :: a5 :: a6 :: .int x :: t) st h r h' := by
  intro p l e s m args below meth c D ad ck H locs ls C P S A
  obtain ⟨kk, hkk2⟩ := asc_ix (X := [a0, a1, a2, a3, a4, a5, a6]) (t := t) (x := x) (ad := ad)
  exact lv_iinc (v := x + v) C.1 C.2.1 hd A hkk2 (by rw [hv]) hn rfl (fun ls' A' => k p l e s m args below meth c D ad ck H locs ls' C P S (Has.set1 (X := [a0, a1, a2, a3, a4, a5, a6]) (a := .int x) (v := .int (x + v)) (t := t) rfl (fun w hw => by cases hw; exact hc) A'))
theorem r_iload_8 {q : MI} {pc : Nat} {st : List Value} {h h' : Wd} {r : Option Value} {a0 a1 a2 a3 a4 a5 a6 a7 : Value} {t : List Value} {x : Int32} (hd : decode (mb q) pc = .ok (.iload 8, 2))  (k : WW q (pc + 2) (a0 :: a1 :: a2 :: a3 :: a4 :: a5 :: a6 :: a7 :: .int x :: t) (.int x :: st) h r h') : WW q pc (a0 :: a1 :: a2 :: a3 :: a4 :: a5 :: a6 :: a7 :: .int x :: t) st h r h' := by
  intro p l e s m args below meth c D ad ck H locs ls C P S A
  exact lv_iload C.1 C.2.1 hd (A.mid (X := [a0, a1, a2, a3, a4, a5, a6, a7]) rfl (fun z => by cases z)) (k p l e s m args below meth c D ad ck H locs ls C P S A)
theorem r_lload_8 {q : MI} {pc : Nat} {st : List Value} {h h' : Wd} {r : Option Value} {a0 a1 a2 a3 a4 a5 a6 a7 : Value} {t : List Value} {x : Int64} (hd : decode (mb q) pc = .ok (.lload 8, 2))  (k : WW q (pc + 2) (a0 :: a1 :: a2 :: a3 :: a4 :: a5 :: a6 :: a7 :: .long x :: t) (.long x :: st) h r h') : WW q pc (a0 :: a1 :: a2 :: a3 :: a4 :: a5 :: a6 :: a7 :: .long x :: t) st h r h' := by
  intro p l e s m args below meth c D ad ck H locs ls C P S A
  exact lv_lload C.1 C.2.1 hd (A.mid (X := [a0, a1, a2, a3, a4, a5, a6, a7]) rfl (fun z => by cases z)) (k p l e s m args below meth c D ad ck H locs ls C P S A)
theorem r_aload_8 {q : MI} {pc : Nat} {st : List Value} {h h' : Wd} {r : Option Value} {a0 a1 a2 a3 a4 a5 a6 a7 : Value} {t : List Value} {x : Nat} (hd : decode (mb q) pc = .ok (.aload 8, 2))  (k : WW q (pc + 2) (a0 :: a1 :: a2 :: a3 :: a4 :: a5 :: a6 :: a7 :: .ref x :: t) (.ref x :: st) h r h') : WW q pc (a0 :: a1 :: a2 :: a3 :: a4 :: a5 :: a6 :: a7 :: .ref x :: t) st h r h' := by
  intro p l e s m args below meth c D ad ck H locs ls C P S A
  exact lv_aload C.1 C.2.1 hd (A.mid (X := [a0, a1, a2, a3, a4, a5, a6, a7]) rfl (fun z => by cases z)) (k p l e s m args below meth c D ad ck H locs ls C P S A)
theorem r_istore_8 {q : MI} {pc : Nat} {st : List Value} {h h' : Wd} {r : Option Value} {a0 a1 a2 a3 a4 a5 a6 a7 : Value} {a : Value} {t : List Value} {x : Int32} (hd : decode (mb q) pc = .ok (.istore 8, 2)) (hc : a7.category = 1) (hn : 8 < mn q) (k : WW q (pc + 2) (a0 :: a1 :: a2 :: a3 :: a4 :: a5 :: a6 :: a7 :: .int x :: t) st h r h') : WW q pc (a0 :: a1 :: a2 :: a3 :: a4 :: a5 :: a6 :: a7 :: a :: t) (.int x :: st) h r h' := by
  intro p l e s m args below meth c D ad ck H locs ls C P S A
  exact lv_istore C.1 C.2.1 hd A hn rfl (fun ls' A' => k p l e s m args below meth c D ad ck H locs ls' C P S (Has.set1 (X := [a0, a1, a2, a3, a4, a5, a6, a7]) (a := a) (v := .int x) (t := t) rfl (fun w hw => by cases hw; exact hc) A'))
theorem r_astore_8 {q : MI} {pc : Nat} {st : List Value} {h h' : Wd} {r : Option Value} {a0 a1 a2 a3 a4 a5 a6 a7 : Value} {a : Value} {t : List Value} {x : Nat} (hd : decode (mb q) pc = .ok (.astore 8, 2)) (hc : a7.category = 1) (hn : 8 < mn q) (k : WW q (pc + 2) (a0 :: a1 :: a2 :: a3 :: a4 :: a5 :: a6 :: a7 :: .ref x :: t) st h r h') : WW q pc (a0 :: a1 :: a2 :: a3 :: a4 :: a5 :: a6 :: a7 :: a :: t) (.ref x :: st) h r h' := by
  intro p l e s m args below meth c D ad ck H locs ls C P S A
  exact lv_astore C.1 C.2.1 hd A hn rfl (fun ls' A' => k p l e s m args below meth c D ad ck H locs ls' C P S (Has.set1 (X := [a0, a1, a2, a3, a4, a5, a6, a7]) (a := a) (v := .ref x) (t := t) rfl (fun w hw => by cases hw; exact hc) A'))
theorem r_lstore_8 {q : MI} {pc : Nat} {st : List Value} {h h' : Wd} {r : Option Value} {a0 a1 a2 a3 a4 a5 a6 a7 : Value} {a b : Value} {t : List Value} {x : Int64} (hd : decode (mb q) pc = .ok (.lstore 8, 2)) (hc : a7.category = 1) (hn : 8 + 1 < mn q) (k : WW q (pc + 2) (a0 :: a1 :: a2 :: a3 :: a4 :: a5 :: a6 :: a7 :: .long x :: .null :: t) st h r h') : WW q pc (a0 :: a1 :: a2 :: a3 :: a4 :: a5 :: a6 :: a7 :: a :: b :: t) (.long x :: st) h r h' := by
  intro p l e s m args below meth c D ad ck H locs ls C P S A
  exact lv_lstore C.1 C.2.1 hd A hn rfl (fun ls' A' => k p l e s m args below meth c D ad ck H locs ls' C P S (Has.set2 (X := [a0, a1, a2, a3, a4, a5, a6, a7]) (a := a) (b := b) (v := .long x) (t := t) rfl (fun w hw => by cases hw; exact hc) A'))
theorem r_iinc_8 {q : MI} {pc : Nat} {st : List Value} {h h' : Wd} {r : Option Value} {a0 a1 a2 a3 a4 a5 a6 a7 : Value} {t : List Value} {x : Int32} {n : Int} (v : Int32) (hd : decode (mb q) pc = .ok (.iinc 8 n, 3)) (hv : Int32.ofInt n = v) (hc : a7.category = 1) (hn : 8 < mn q) (k : WW q (pc + 3) (a0 :: a1 :: a2 :: a3 :: a4 :: a5 :: a6 :: a7 :: .int (x + v) :: t) st h r h') : WW q pc (a0 :: a1 :: a2 :: a3 :: a4 :: a5 :: a6 :: a7 :: .int x :: t) st h r h' := by
  intro p l e s m args below meth c D ad ck H locs ls C P S A
  obtain ⟨kk, hkk2⟩ := asc_ix (X := [a0, a1, a2, a3, a4, a5, a6, a7]) (t := t) (x := x) (ad := ad)
  exact lv_iinc (v := x + v) C.1 C.2.1 hd A hkk2 (by rw [hv]) hn rfl (fun ls' A' => k p l e s m args below meth c D ad ck H locs ls' C P S (Has.set1 (X := [a0, a1, a2, a3, a4, a5, a6, a7]) (a := .int x) (v := .int (x + v)) (t := t) rfl (fun w hw => by cases hw; exact hc) A'))
theorem r_iload_9 {q : MI} {pc : Nat} {st : List Value} {h h' : Wd} {r : Option Value} {a0 a1 a2 a3 a4 a5 a6 a7 a8 : Value} {t : List Value} {x : Int32} (hd : decode (mb q) pc = .ok (.iload 9, 2))  (k : WW q (pc + 2) (a0 :: a1 :: a2 :: a3 :: a4 :: a5 :: a6 :: a7 :: a8 :: .int x :: t) (.int x :: st) h r h') : WW q pc (a0 :: a1 :: a2 :: a3 :: a4 :: a5 :: a6 :: a7 :: a8 :: .int x :: t) st h r h' := by
  intro p l e s m args below meth c D ad ck H locs ls C P S A
  exact lv_iload C.1 C.2.1 hd (A.mid (X := [a0, a1, a2, a3, a4, a5, a6, a7, a8]) rfl (fun z => by cases z)) (k p l e s m args below meth c D ad ck H locs ls C P S A)
theorem r_lload_9 {q : MI} {pc : Nat} {st : List Value} {h h' : Wd} {r : Option Value} {a0 a1 a2 a3 a4 a5 a6 a7 a8 : Value} {t : List Value} {x : Int64} (hd : decode (mb q) pc = .ok (.lload 9, 2))  (k : WW q (pc + 2) (a0 :: a1 :: a2 :: a3 :: a4 :: a5 :: a6 :: a7 :: a8 :: .long x :: t) (.long x :: st) h r h') : WW q pc (a0 :: a1 :: a2 :: a3 :: a4 :: a5 :: a6 :: a7 :: a8 :: .long x :: t) st h r h' := by
  intro p l e s m args below meth c D ad ck H locs ls C P S A
  exact lv_lload C.1 C.2.1 hd (A.mid (X := [a0, a1, a2, a3, a4, a5, a6, a7, a8]) rfl (fun z => by cases z)) (k p l e s m args below meth c D ad ck H locs ls C P S A)
theorem r_aload_9 {q : MI} {pc : Nat} {st : List Value} {h h' : Wd} {r : Option Value} {a0 a1 a2 a3 a4 a5 a6 a7 a8 : Value} {t : List Value} {x : Nat} (hd : decode (mb q) pc = .ok (.aload 9, 2))  (k : WW q (pc + 2) (a0 :: a1 :: a2 :: a3 :: a4 :: a5 :: a6 :: a7 :: a8 :: .ref x :: t) (.ref x :: st) h r h') : WW q pc (a0 :: a1 :: a2 :: a3 :: a4 :: a5 :: a6 :: a7 :: a8 :: .ref x :: t) st h r h' := by
  intro p l e s m args below meth c D ad ck H locs ls C P S A
  exact lv_aload C.1 C.2.1 hd (A.mid (X := [a0, a1, a2, a3, a4, a5, a6, a7, a8]) rfl (fun z => by cases z)) (k p l e s m args below meth c D ad ck H locs ls C P S A)
theorem r_istore_9 {q : MI} {pc : Nat} {st : List Value} {h h' : Wd} {r : Option Value} {a0 a1 a2 a3 a4 a5 a6 a7 a8 : Value} {a : Value} {t : List Value} {x : Int32} (hd : decode (mb q) pc = .ok (.istore 9, 2)) (hc : a8.category = 1) (hn : 9 < mn q) (k : WW q (pc + 2) (a0 :: a1 :: a2 :: a3 :: a4 :: a5 :: a6 :: a7 :: a8 :: .int x :: t) st h r h') : WW q pc (a0 :: a1 :: a2 :: a3 :: a4 :: a5 :: a6 :: a7 :: a8 :: a :: t) (.int x :: st) h r h' := by
  intro p l e s m args below meth c D ad ck H locs ls C P S A
  exact lv_istore C.1 C.2.1 hd A hn rfl (fun ls' A' => k p l e s m args below meth c D ad ck H locs ls' C P S (Has.set1 (X := [a0, a1, a2, a3, a4, a5, a6, a7, a8]) (a := a) (v := .int x) (t := t) rfl (fun w hw => by cases hw; exact hc) A'))
theorem r_astore_9 {q : MI} {pc : Nat} {st : List Value} {h h' : Wd} {r : Option Value} {a0 a1 a2 a3 a4 a5 a6 a7 a8 : Value} {a : Value} {t : List Value} {x : Nat} (hd : decode (mb q) pc = .ok (.astore 9, 2)) (hc : a8.category = 1) (hn : 9 < mn q) (k : WW q (pc + 2) (a0 :: a1 :: a2 :: a3 :: a4 :: a5 :: a6 :: a7 :: a8 :: .ref x :: t) st h r h') : WW q pc (a0 :: a1 :: a2 :: a3 :: a4 :: a5 :: a6 :: a7 :: a8 :: a :: t) (.ref x :: st) h r h' := by
  intro p l e s m args below meth c D ad ck H locs ls C P S A
  exact lv_astore C.1 C.2.1 hd A hn rfl (fun ls' A' => k p l e s m args below meth c D ad ck H locs ls' C P S (Has.set1 (X := [a0, a1, a2, a3, a4, a5, a6, a7, a8]) (a := a) (v := .ref x) (t := t) rfl (fun w hw => by cases hw; exact hc) A'))
theorem r_lstore_9 {q : MI} {pc : Nat} {st : List Value} {h h' : Wd} {r : Option Value} {a0 a1 a2 a3 a4 a5 a6 a7 a8 : Value} {a b : Value} {t : List Value} {x : Int64} (hd : decode (mb q) pc = .ok (.lstore 9, 2)) (hc : a8.category = 1) (hn : 9 + 1 < mn q) (k : WW q (pc + 2) (a0 :: a1 :: a2 :: a3 :: a4 :: a5 :: a6 :: a7 :: a8 :: .long x :: .null :: t) st h r h') : WW q pc (a0 :: a1 :: a2 :: a3 :: a4 :: a5 :: a6 :: a7 :: a8 :: a :: b :: t) (.long x :: st) h r h' := by
  intro p l e s m args below meth c D ad ck H locs ls C P S A
  exact lv_lstore C.1 C.2.1 hd A hn rfl (fun ls' A' => k p l e s m args below meth c D ad ck H locs ls' C P S (Has.set2 (X := [a0, a1, a2, a3, a4, a5, a6, a7, a8]) (a := a) (b := b) (v := .long x) (t := t) rfl (fun w hw => by cases hw; exact hc) A'))
theorem r_iinc_9 {q : MI} {pc : Nat} {st : List Value} {h h' : Wd} {r : Option Value} {a0 a1 a2 a3 a4 a5 a6 a7 a8 : Value} {t : List Value} {x : Int32} {n : Int} (v : Int32) (hd : decode (mb q) pc = .ok (.iinc 9 n, 3)) (hv : Int32.ofInt n = v) (hc : a8.category = 1) (hn : 9 < mn q) (k : WW q (pc + 3) (a0 :: a1 :: a2 :: a3 :: a4 :: a5 :: a6 :: a7 :: a8 :: .int (x + v) :: t) st h r h') : WW q pc (a0 :: a1 :: a2 :: a3 :: a4 :: a5 :: a6 :: a7 :: a8 :: .int x :: t) st h r h' := by
  intro p l e s m args below meth c D ad ck H locs ls C P S A
  obtain ⟨kk, hkk2⟩ := asc_ix (X := [a0, a1, a2, a3, a4, a5, a6, a7, a8]) (t := t) (x := x) (ad := ad)
  exact lv_iinc (v := x + v) C.1 C.2.1 hd A hkk2 (by rw [hv]) hn rfl (fun ls' A' => k p l e s m args below meth c D ad ck H locs ls' C P S (Has.set1 (X := [a0, a1, a2, a3, a4, a5, a6, a7, a8]) (a := .int x) (v := .int (x + v)) (t := t) rfl (fun w hw => by cases hw; exact hc) A'))
theorem r_iload_10 {q : MI} {pc : Nat} {st : List Value} {h h' : Wd} {r : Option Value} {a0 a1 a2 a3 a4 a5 a6 a7 a8 a9 : Value} {t : List Value} {x : Int32} (hd : decode (mb q) pc = .ok (.iload 10, 2))  (k : WW q (pc + 2) (a0 :: a1 :: a2 :: a3 :: a4 :: a5 :: a6 :: a7 :: a8 :: a9 :: .int x :: t) (.int x :: st) h r h') : WW q pc (a0 :: a1 :: a2 :: a3 :: a4 :: a5 :: a6 :: a7 :: a8 :: a9 :: .int x :: t) st h r h' := by
  intro p l e s m args below meth c D ad ck H locs ls C P S A
  exact lv_iload C.1 C.2.1 hd (A.mid (X := [a0, a1, a2, a3, a4, a5, a6, a7, a8, a9]) rfl (fun z => by cases z)) (k p l e s m args below meth c D ad ck H locs ls C P S A)
theorem r_lload_10 {q : MI} {pc : Nat} {st : List Value} {h h' : Wd} {r : Option Value} {a0 a1 a2 a3 a4 a5 a6 a7 a8 a9 : Value} {t : List Value} {x : Int64} (hd : decode (mb q) pc = .ok (.lload 10, 2))  (k : WW q (pc + 2) (a0 :: a1 :: a2 :: a3 :: a4 :: a5 :: a6 :: a7 :: a8 :: a9 :: .long x :: t) (.long x :: st) h r h') : WW q pc (a0 :: a1 :: a2 :: a3 :: a4 :: a5 :: a6 :: a7 :: a8 :: a9 :: .long x :: t) st h r h' := by
  intro p l e s m args below meth c D ad ck H locs ls C P S A
  exact lv_lload C.1 C.2.1 hd (A.mid (X := [a0, a1, a2, a3, a4, a5, a6, a7, a8, a9]) rfl (fun z => by cases z)) (k p l e s m args below meth c D ad ck H locs ls C P S A)
theorem r_aload_10 {q : MI} {pc : Nat} {st : List Value} {h h' : Wd} {r : Option Value} {a0 a1 a2 a3 a4 a5 a6 a7 a8 a9 : Value} {t : List Value} {x : Nat} (hd : decode (mb q) pc = .ok (.aload 10, 2))  (k : WW q (pc + 2) (a0 :: a1 :: a2 :: a3 :: a4 :: a5 :: a6 :: a7 :: a8 :: a9 :: .ref x :: t) (.ref x :: st) h r h') : WW q pc (a0 :: a1 :: a2 :: a3 :: a4 :: a5 :: a6 :: a7 :: a8 :: a9 :: .ref x :: t) st h r h' := by
  intro p l e s m args below meth c D ad ck H locs ls C P S A
  exact lv_aload C.1 C.2.1 hd (A.mid (X := [a0, a1, a2, a3, a4, a5, a6, a7, a8, a9]) rfl (fun z => by cases z)) (k p l e s m args below meth c D ad ck H locs ls C P S A)
theorem r_istore_10 {q : MI} {pc : Nat} {st : List Value} {h h' : Wd} {r : Option Value} {a0 a1 a2 a3 a4 a5 a6 a7 a8 a9 : Value} {a : Value} {t : List Value} {x : Int32} (hd : decode (mb q) pc = .ok (.istore 10, 2)) (hc : a9.category = 1) (hn : 10 < mn q) (k : WW q (pc + 2) (a0 :: a1 :: a2 :: a3 :: a4 :: a5 :: a6 :: a7 :: a8 :: a9 :: .int x :: t) st h r h') : WW q pc (a0 :: a1 :: a2 :: a3 :: a4 :: a5 :: a6 :: a7 :: a8 :: a9 :: a :: t) (.int x :: st) h r h' := by
  intro p l e s m args below meth c D ad ck H locs ls C P S A
  exact lv_istore C.1 C.2.1 hd A hn rfl (fun ls' A' => k p l e s m args below meth c D ad ck H locs ls' C P S (Has.set1 (X := [a0, a1, a2, a3, a4, a5, a6, a7, a8, a9]) (a := a) (v := .int x) (t := t) rfl (fun w hw => by cases hw; exact hc) A'))
theorem r_astore_10 {q : MI} {pc : Nat} {st : List Value} {h h' : Wd} {r : Option Value} {a0 a1 a2 a3 a4 a5 a6 a7 a8 a9 : Value} {a : Value} {t : List Value} {x : Nat} (hd : decode (mb q) pc = .ok (.astore 10, 2)) (hc : a9.category = 1) (hn : 10 < mn q) (k : WW q (pc + 2) (a0 :: a1 :: a2 :: a3 :: a4 :: a5 :: a6 :: a7 :: a8 :: a9 :: .ref x :: t) st h r h') : WW q pc (a0 :: a1 :: a2 :: a3 :: a4 :: a5 :: a6 :: a7 :: a8 :: a9 :: a :: t) (.ref x :: st) h r h' := by
  intro p l e s m args below meth c D ad ck H locs ls C P S A
  exact lv_astore C.1 C.2.1 hd A hn rfl (fun ls' A' => k p l e s m args below meth c D ad ck H locs ls' C P S (Has.set1 (X := [a0, a1, a2, a3, a4, a5, a6, a7, a8, a9]) (a := a) (v := .ref x) (t := t) rfl (fun w hw => by cases hw; exact hc) A'))
theorem r_lstore_10 {q : MI} {pc : Nat} {st : List Value} {h h' : Wd} {r : Option Value} {a0 a1 a2 a3 a4 a5 a6 a7 a8 a9 : Value} {a b : Value} {t : List Value} {x : Int64} (hd : decode (mb q) pc = .ok (.lstore 10, 2)) (hc : a9.category = 1) (hn : 10 + 1 < mn q) (k : WW q (pc + 2) (a0 :: a1 :: a2 :: a3 :: a4 :: a5 :: a6 :: a7 :: a8 :: a9 :: .long x :: .null :: t) st h r h') : WW q pc (a0 :: a1 :: a2 :: a3 :: a4 :: a5 :: a6 :: a7 :: a8 :: a9 :: a :: b :: t) (.long x :: st) h r h' := by
  intro p l e s m args below meth c D ad ck H locs ls C P S A
  exact lv_lstore C.1 C.2.1 hd A hn rfl (fun ls' A' => k p l e s m args below meth c D ad ck H locs ls' C P S (Has.set2 (X := [a0, a1, a2, a3, a4, a5, a6, a7, a8, a9]) (a := a) (b := b) (v := .long x) (t := t) rfl (fun w hw => by cases hw; exact hc) A'))
theorem r_iinc_10 {q : MI} {pc : Nat} {st : List Value} {h h' : Wd} {r : Option Value} {a0 a1 a2 a3 a4 a5 a6 a7 a8 a9 : Value} {t : List Value} {x : Int32} {n : Int} (v : Int32) (hd : decode (mb q) pc = .ok (.iinc 10 n, 3)) (hv : Int32.ofInt n = v) (hc : a9.category = 1) (hn : 10 < mn q) (k : WW q (pc + 3) (a0 :: a1 :: a2 :: a3 :: a4 :: a5 :: a6 :: a7 :: a8 :: a9 :: .int (x + v) :: t) st h r h') : WW q pc (a0 :: a1 :: a2 :: a3 :: a4 :: a5 :: a6 :: a7 :: a8 :: a9 :: .int x :: t) st h r h' := by
  intro p l e s m args below meth c D ad ck H locs ls C P S A
  obtain ⟨kk, hkk2⟩ := asc_ix (X := [a0, a1, a2, a3, a4, a5, a6, a7, a8, a9]) (t := t) (x := x) (ad := ad)
  exact lv_iinc (v := x + v) C.1 C.2.1 hd A hkk2 (by rw [hv]) hn rfl (fun ls' A' => k p l e s m args below meth c D ad ck H locs ls' C P S (Has.set1 (X := [a0, a1, a2, a3, a4, a5, a6, a7, a8, a9]) (a := .int x) (v := .int (x + v)) (t := t) rfl (fun w hw => by cases hw; exact hc) A'))
theorem r_iload_11 {q : MI} {pc : Nat} {st : List Value} {h h' : Wd} {r : Option Value} {a0 a1 a2 a3 a4 a5 a6 a7 a8 a9 a10 : Value} {t : List Value} {x : Int32} (hd : decode (mb q) pc = .ok (.iload 11, 2))  (k : WW q (pc + 2) (a0 :: a1 :: a2 :: a3 :: a4 :: a5 :: a6 :: a7 :: a8 :: a9 :: a10 :: .int x :: t) (.int x :: st) h r h') : WW q pc (a0 :: a1 :: a2 :: a3 :: a4 :: a5 :: a6 :: a7 :: a8 :: a9 :: a10 :: .int x :: t) st h r h' := by
  intro p l e s m args below meth c D ad ck H locs ls C P S A
  exact lv_iload C.1 C.2.1 hd (A.mid (X := [a0, a1, a2, a3, a4, a5, a6, a7, a8, a9, a10]) rfl (fun z => by cases z)) (k p l e s m args below meth c D ad ck H locs ls C P S A)
theorem r_lload_11 {q : MI} {pc : Nat} {st : List Value} {h h' : Wd} {r : Option Value} {a0 a1 a2 a3 a4 a5 a6 a7 a8 a9 a10 : Value} {t : List Value} {x : Int64} (hd : decode (mb q) pc = .ok (.lload 11, 2))  (k : WW q (pc + 2) (a0 :: a1 :: a2 :: a3 :: a4 :: a5 :: a6 :: a7 :: a8 :: a9 :: a10 :: .long x :: t) (.long x :: st) h r h') : WW q pc (a0 :: a1 :: a2 :: a3 :: a4 :: a5 :: a6 :: a7 :: a8 :: a9 :: a10 :: .long x :: t) st h r h' := by
  intro p l e s m args below meth c D ad ck H locs ls C P S A
  exact lv_lload C.1 C.2.1 hd (A.mid (X := [a0, a1, a2, a3, a4, a5, a6, a7, a8, a9, a10]) rfl (fun z => by cases z)) (k p l e s m args below meth c D ad ck H locs ls C P S A)
theorem r_aload_11 {q : MI} {pc : Nat} {st : List Value} {h h' : Wd} {r : Option Value} {a0 a1 a2 a3 a4 a5 a6 a7 a8 a9 a10 : Value} {t : List Value} {x : Nat} (hd : decode (mb q) pc = .ok (.aload 11, 2))  (k : WW q (pc + 2) (a0 :: a1 :: a2 :: a3 :: a4 :: a5 :: a6 :: a7 :: a8 :: a9 :: a10 :: .ref x :: t) (.ref x :: st) h r h') : WW q pc (a0 :: a1 :: a2 :: a3 :: a4 :: a5 :: a6 :: a7 :: a8 :: a9 :: a10 :: .ref x :: t) st h r h' := by
  intro p l e s m args below meth c D ad ck H locs ls C P S A
  exact lv_aload C.1 C.2.1 hd (A.mid (X := [a0, a1, a2, a3, a4, a5, a6, a7, a8, a9, a10]) rfl (fun z => by cases z)) (k p l e s m args below meth c D ad ck H locs ls C P S A)
theorem r_istore_11 {q : MI} {pc : Nat} {st : List Value} {h h' : Wd} {r : Option Value} {a0 a1 a2 a3 a4 a5 a6 a7 a8 a9 a10 : Value} {a : Value} {t : List Value} {x : Int32} (hd : decode (mb q) pc = .ok (.istore 11, 2)) (hc : a10.category = 1) (hn : 11 < mn q) (k : WW q (pc + 2) (a0 :: a1 :: a2 :: a3 :: a4 :: a5 :: a6 :: a7 :: a8 :: a9 :: a10 :: .int x :: t) st h r h') : WW q pc (a0 :: a1 :: a2 :: a3 :: a4 :: a5 :: a6 :: a7 :: a8 :: a9 :: a10 :: a :: t) (.int x :: st) h r h' := by
  intro p l e s m args below meth c D ad ck H locs ls C P S A
  exact lv_istore C.1 C.2.1 hd A hn rfl (fun ls' A' => k p l e s m args below meth c D ad ck H locs ls' C P S (Has.set1 (X := [a0, a1, a2, a3, a4, a5, a6, a7, a8, a9, a10]) (a := a) (v := .int x) (t := t) rfl (fun w hw => by cases hw; exact hc) A'))
theorem r_astore_11 {q : MI} {pc : Nat} {st : List Value} {h h' : Wd} {r : Option Value} {a0 a1 a2 a3 a4 a5 a6 a7 a8 a9 a10 : Value} {a : Value} {t : List Value} {x : Nat} (hd : decode (mb q) pc = .ok (.astore 11, 2)) (hc : a10.category = 1) (hn : 11 < mn q) (k : WW q (pc + 2) (a0 :: a1 :: a2 :: a3 :: a4 :: a5 :: a6 :: a7 :: a8 :: a9 :: a10 :: .ref x :: t) st h r h') : WW q pc (a0 :: a1 :: a2 :: a3 :: a4 :: a5 :: a6 :: a7 :: a8 :: a9 :: a10 :: a :: t) (.ref x :: st) h r h' := by
  intro p l e s m args below meth c D ad ck H locs ls C P S A
  exact lv_astore C.1 C.2.1 hd A hn rfl (fun ls' A' => k p l e s m args below meth c D ad ck H locs ls' C P S (Has.set1 (X := [a0, a1, a2, a3, a4, a5, a6, a7, a8, a9, a10]) (a := a) (v := .ref x) (t := t) rfl (fun w hw => by cases hw; exact hc) A'))
theorem r_lstore_11 {q : MI} {pc : Nat} {st : List Value} {h h' : Wd} {r : Option Value} {a0 a1 a2 a3 a4 a5 a6 a7 a8 a9 a10 : Value} {a b : Value} {t : List Value} {x : Int64} (hd : decode (mb q) pc = .ok (.lstore 11, 2)) (hc : a10.category = 1) (hn : 11 + 1 < mn q) (k : WW q (pc + 2) (a0 :: a1 :: a2 :: a3 :: a4 :: a5 :: a6 :: a7 :: a8 :: a9 :: a10 :: .long x :: .null :: t) st h r h') : WW q pc (a0 :: a1 :: a2 :: a3 :: a4 :: a5 :: a6 :: a7 :: a8 :: a9 :: a10 :: a :: b :: t) (.long x :: st) h r h' := by
  intro p l e s m args below meth c D ad ck H locs ls C P S A
  exact lv_lstore C.1 C.2.1 hd A hn rfl (fun ls' A' => k p l e s m args below meth c D ad ck H locs ls' C P S (Has.set2 (X := [a0, a1, a2, a3, a4, a5, a6, a7, a8, a9, a10]) (a := a) (b := b) (v := .long x) (t := t) rfl (fun w hw => by cases hw; exact hc) A'))
theorem r_iinc_11 {q : MI} {pc : Nat} {st : List Value} {h h' : Wd} {r : Option Value} {a0 a1 a2 a3 a4 a5 a6 a7 a8 a9 a10 : Value} {t : List Value} {x : Int32} {n : Int} (v : Int32) (hd : decode (mb q) pc = .ok (.iinc 11 n, 3)) (hv : Int32.ofInt n = v) (hc : a10.category = 1) (hn : 11 < mn q) (k : WW q (pc + 3) (a0 :: a1 :: a2 :: a3 :: a4 :: a5 :: a6 :: a7 :: a8 :: a9 :: a10 :: .int (x + v) :: t) st h r h') : WW q pc (a0 :: a1 :: a2 :: a3 :: a4 :: a5 :: a6 :: a7 :: a8 :: a9 :: a10 :: .int x :: t) st h r h' := by
  intro p l e s m args below meth c D ad ck H locs ls C P S A
  obtain ⟨kk, hkk2⟩ := asc_ix (X := [a0, a1, a2, a3, a4, a5, a6, a7, a8, a9, a10]) (t := t) (x := x) (ad := ad)
  exact lv_iinc (v := x + v) C.1 C.2.1 hd A hkk2 (by rw [hv]) hn rfl (fun ls' A' => k p l e s m args below meth c D ad ck H locs ls' C P S (Has.set1 (X := [a0, a1, a2, a3, a4, a5, a6, a7, a8, a9, a10]) (a := .int x) (v := .int (x + v)) (t := t) rfl (fun w hw => by cases hw; exact hc) A'))
theorem r_iload_12 {q : MI} {pc : Nat} {st : List Value} {h h' : Wd} {r : Option Value} {a0 a1 a2 a3 a4 a5 a6 a7 a8 a9 a10 a11 : Value} {t : List Value} {x : Int32} (hd : decode (mb q) pc = .ok (.iload 12, 2))  (k : WW q (pc + 2) (a0 :: a1 :: a2 :: a3 :: a4 :: a5 :: a6 :: a7 :: a8 :: a9 :: a10 :: a11 :: .int x :: t) (.int x :: st) h r h') : WW q pc (a0 :: a1 :: a2 :: a3 :: a4 :: a5 :: a6 :: a7 :: a8 :: a9 :: a10 :: a11 :: .int x :: t) st h r h' := by
  intro p l e s m args below meth c D ad ck H locs ls C P S A
  exact lv_iload C.1 C.2.1 hd (A.mid (X := [a0, a1, a2, a3, a4, a5, a6, a7, a8, a9, a10, a11]) rfl (fun z => by cases z)) (k p l e s m args below meth c D ad ck H locs ls C P S A)
theorem r_lload_12 {q : MI} {pc : Nat} {st : List Value} {h h' : Wd} {r : Option Value} {a0 a1 a2 a3 a4 a5 a6 a7 a8 a9 a10 a11 : Value} {t : List Value} {x : Int64} (hd : decode (mb q) pc = .ok (.lload 12, 2))  (k : WW q (pc + 2) (a0 :: a1 :: a2 :: a3 :: a4 :: a5 :: a6 :: a7 :: a8 :: a9 :: a10 :: a11 :: .long x :: t) (.long x :: st) h r h') : WW q pc (a0 :: a1 :: a2 :: a3 :: a4 :: a5 :: a6 :: a7 :: a8 :: a9 :: a10 :: a11 :: .long x :: t) st h r h' := by
  intro p l e s m args below meth c D ad ck H locs ls C P S A
  exact lv_lload C.1 C.2.1 hd (A.mid (X := [a0, a1, a2, a3, a4, a5, a6, a7, a8, a9, a10, a11]) rfl (fun z => by cases z)) (k p l e s m args below meth c D ad ck H locs ls C P S A)
theorem r_aload_12 {q : MI} {pc : Nat} {st : List Value} {h h' : Wd} {r : Option Value} {a0 a1 a2 a3 a4 a5 a6 a7 a8 a9 a10 a11 : Value} {t : List Value} {x : Nat} (hd : decode (mb q) pc = .ok (.aload 12, 2))  (k : WW q (pc + 2) (a0 :: a1 :: a2 :: a3 :: a4 :: a5 :: a6 :: a7 :: a8 :: a9 :: a10 :: a11 :: .ref x :: t) (.ref x :: st) h r h') : WW q pc (a0 :: a1 :: a2 :: a3 :: a4 :: a5 :: a6 :: a7 :: a8 :: a9 :: a10 :: a11 :: .ref x :: t) st h r h' := by
  intro p l e s m args below meth c D ad ck H locs ls C P S A
  exact lv_aload C.1 C.2.1 hd (A.mid (X := [a0, a1, a2, a3, a4, a5, a6, a7, a8, a9, a10, a11]) rfl (fun z => by cases z)) (k p l e s m args below meth c D ad ck H locs ls C P S A)
theorem r_istore_12 {q : MI} {pc : Nat} {st : List Value} {h h' : Wd} {r : Option Value} {a0 a1 a2 a3 a4 a5 a6 a7 a8 a9 a10 a11 : Value} {a : Value} {t : List Value} {x : Int32} (hd : decode (mb q) pc = .ok (.istore 12, 2)) (hc : a11.category = 1) (hn : 12 < mn q) (k : WW q (pc + 2) (a0 :: a1 :: a2 :: a3 :: a4 :: a5 :: a6 :: a7 :: a8 :: a9 :: a10 :: a11 :: .int x :: t) st h r h') : WW q pc (a0 :: a1 :: a2 :: a3 :: a4 :: a5 :: a6 :: a7 :: a8 :: a9 :: a10 :: a11 :: a :: t) (.int x :: st) h r h' := by
  intro p l e s m args below meth c D ad ck H locs ls C P S A
  exact lv_istore C.1 C.2.1 hd A hn rfl (fun ls' A' => k p l e s m args below meth c D ad ck H locs ls' C P S (Has.set1 (X := [a0, a1, a2, a3, a4, a5, a6, a7, a8, a9, a10, a11]) (a := a) (v := .int x) (t := t) rfl (fun w hw => by cases hw; exact hc) A'))
theorem r_astore_12 {q : MI} {pc : Nat} {st : List Value} {h h' : Wd} {r : Option Value} {a0 a1 a2 a3 a4 a5 a6 a7 a8 a9 a10 a11 : Value} {a : Value} {t : List Value} {x : Nat} (hd : decode (mb q) pc = .ok (.astore 12, 2)) (hc : a11.category = 1) (hn : 12 < mn q) (k : WW q (pc + 2) (a0 :: a1 :: a2 :: a3 :: a4 :: a5 :: a6 :: a7 :: a8 :: a9 :: a10 :: a11 :: .ref x :: t) st h r h') : WW q pc (a0 :: a1 :: a2 :: a3 :: a4 :: a5 :: a6 :: a7 :: a8 :: a9 :: a10 :: a11 :: a :: t) (.ref x :: st) h r h' := by
  intro p l e s m args below meth c D ad ck H locs ls C P S A
  exact lv_astore C.1 C.2.1 hd A hn rfl (fun ls' A' => k p l e s m args below meth c D ad ck H locs ls' C P S (Has.set1 (X := [a0, a1, a2, a3, a4, a5, a6, a7, a8, a9, a10, a11]) (a := a) (v := .ref x) (t := t) rfl (fun w hw => by cases hw; exact hc) A'))
theorem r_lstore_12 {q : MI} {pc : Nat} {st : List Value} {h h' : Wd} {r : Option Value} {a0 a1 a2 a3 a4 a5 a6 a7 a8 a9 a10 a11 : Value} {a b : Value} {t : List Value} {x : Int64} (hd : decode (mb q) pc = .ok (.lstore 12, 2)) (hc : a11.category = 1) (hn : 12 + 1 < mn q) (k : WW q (pc + 2) (a0 :: a1 :: a2 :: a3 :: a4 :: a5 :: a6 :: a7 :: a8 :: a9 :: a10 :: a11 :: .long x :: .null :: t) st h r h') : WW q pc (a0 :: a1 :: a2 :: a3 :: a4 :: a5 :: a6 :: a7 :: a8 :: a9 :: a10 :: a11 :: a :: b :: t) (.long x :: st) h r h' := by
  intro p l e s m args below meth c D ad ck H locs ls C P S A
  exact lv_lstore C.1 C.2.1 hd A hn rfl (fun ls' A' => k p l e s m args below meth c D ad ck H locs ls' C P S (Has.set2 (X := [a0, a1, a2, a3, a4, a5, a6, a7, a8, a9, a10, a11]) (a := a) (b := b) (v := .long x) (t := t) rfl (fun w hw => by cases hw; exact hc) A'))
theorem r_iinc_12 {q : MI} {pc : Nat} {st : List Value} {h h' : Wd} {r : Option Value} {a0 a1 a2 a3 a4 a5 a6 a7 a8 a9 a10 a11 : Value} {t : List Value} {x : Int32} {n : Int} (v : Int32) (hd : decode (mb q) pc = .ok (.iinc 12 n, 3)) (hv : Int32.ofInt n = v) (hc : a11.category = 1) (hn : 12 < mn q) (k : WW q (pc + 3) (a0 :: a1 :: a2 :: a3 :: a4 :: a5 :: a6 :: a7 :: a8 :: a9 :: a10 :: a11 :: .int (x + v) :: t) st h r h') : WW q pc (a0 :: a1 :: a2 :: a3 :: a4 :: a5 :: a6 :: a7 :: a8 :: a9 :: a10 :: a11 :: .int x :: t) st h r h' := by
  intro p l e s m args below meth c D ad ck H locs ls C P S A
  obtain ⟨kk, hkk2⟩ := asc_ix (X := [a0, a1, a2, a3, a4, a5, a6, a7, a8, a9, a10, a11]) (t := t) (x := x) (ad := ad)
  exact lv_iinc (v := x + v) C.1 C.2.1 hd A hkk2 (by rw [hv]) hn rfl (fun ls' A' => k p l e s m args below meth c D ad ck H locs ls' C P S (Has.set1 (X := [a0, a1, a2, a3, a4, a5, a6, a7, a8, a9, a10, a11]) (a := .int x) (v := .int (x + v)) (t := t) rfl (fun w hw => by cases hw; exact hc) A'))
theorem r_iload_13 {q : MI} {pc : Nat} {st : List Value} {h h' : Wd} {r : Option Value} {a0 a1 a2 a3 a4 a5 a6 a7 a8 a9 a10 a11 a12 : Value} {t : List Value} {x : Int32} (hd : decode (mb q) pc = .ok (.iload 13, 2))  (k : WW q (pc + 2) (a0 :: a1 :: a2 :: a3 :: a4 :: a5 :: a6 :: a7 :: a8 :: a9 :: a10 :: a11 :: a12 :: .int x :: t) (.int x :: st) h r h') : WW q pc (a0 :: a1 :: a2 :: a3 :: a4 :: a5 :: a6 :: a7 :: a8 :: a9 :: a10 :: a11 :: a12 :: .int x :: t) st h r h' := by
  intro p l e s m args below meth c D ad ck H locs ls C P S A
  exact lv_iload C.1 C.2.1 hd (A.mid (X := [a0, a1, a2, a3, a4, a5, a6, a7, a8, a9, a10, a11, a12]) rfl (fun z => by cases z)) (k p l e s m args below meth c D ad ck H locs ls C P S A)
theorem r_lload_13 {q : MI} {pc : Nat} {st : List Value} {h h' : Wd} {r : Option Value} {a0 a1 a2 a3 a4 a5 a6 a7 a8 a9 a10 a11 a12 : Value} {t : List Value} {x : Int64} (hd : decode (mb q) pc = .ok (.lload 13, 2))  (k : WW q (pc + 2) (a0 :: a1 :: a2 :: a3 :: a4 :: a5 :: a6 :: a7 :: a8 :: a9 :: a10 :: a11 :: a12 :: .long x :: t) (.long x :: st) h r h') : WW q pc (a0 :: a1 :: a2 :: a3 :: a4 :: a5 :: a6 :: a7 :: a8 :: a9 :: a10 :: a11 :: a12 :: .long x :: t) st h r h' := by
  intro p l e s m args below meth c D ad ck H locs ls C P S A
  exact lv_lload C.1 C.2.1 hd (A.mid (X := [a0, a1, a2, a3, a4, a5, a6, a7, a8, a9, a10, a11, a12]) rfl (fun z => by cases z)) (k p l e s m args below meth c D ad ck H locs ls C P S A)
theorem r_aload_13 {q : MI} {pc : Nat} {st : List Value} {h h' : Wd} {r : Option Value} {a0 a1 a2 a3 a4 a5 a6 a7 a8 a9 a10 a11 a12 : Value} {t : List Value} {x : Nat} (hd : decode (mb q) pc = .ok (.aload 13, 2))  (k : WW q (pc + 2) (a0 :: a1 :: a2 :: a3 :: a4 :: a5 :: a6 :: a7 :: a8 :: a9 :: a10 :: a11 :: a12 :: .ref x :: t) (.ref x :: st) h r h') : WW q pc (a0 :: a1 :: a2 :: a3 :: a4 :: a5 :: a6 :: a7 :: a8 :: a9 :: a10 :: a11 :: a12 :: .ref x :: t) st h r h' := by
  intro p l e s m args below meth c D ad ck H locs ls C P S A
  exact lv_aload C.1 C.2.1 hd (A.mid (X := [a0, a1, a2, a3, a4, a5, a6, a7, a8, a9, a10, a11, a12]) rfl (fun z => by cases z)) (k p l e s m args below meth c D ad ck H locs ls C P S A)
theorem r_istore_13 {q : MI} {pc : Nat} {st : List Value} {h h' : Wd} {r : Option Value} {a0 a1 a2 a3 a4 a5 a6 a7 a8 a9 a10 a11 a12 : Value} {a : Value} {t : List Value} {x : Int32} (hd : decode (mb q) pc = .ok (.istore 13, 2)) (hc : a12.category = 1) (hn : 13 < mn q) (k : WW q (pc + 2) (a0 :: a1 :: a2 :: a3 :: a4 :: a5 :: a6 :: a7 :: a8 :: a9 :: a10 :: a11 :: a12 :: .int x :: t) st h r h') : WW q pc (a0 :: a1 :: a2 :: a3 :: a4 :: a5 :: a6 :: a7 :: a8 :: a9 :: a10 :: a11 :: a12 :: a :: t) (.int x :: st) h r h' := by
  intro p l e s m args below meth c D ad ck H locs ls C P S A
  exact lv_istore C.1 C.2.1 hd A hn rfl (fun ls' A' => k p l e s m args below meth c D ad ck H locs ls' C P S (Has.set1 (X := [a0, a1, a2, a3, a4, a5, a6, a7, a8, a9, a10, a11, a12]) (a := a) (v := .int x) (t := t) rfl (fun w hw => by cases hw; exact hc) A'))
theorem r_astore_13 {q : MI} {pc : Nat} {st : List Value} {h h' : Wd} {r : Option Value} {a0 a1 a2 a3 a4 a5 a6 a7 a8 a9 a10 a11 a12 : Value} {a : Value} {t : List Value} {x : Nat} (hd : decode (mb q) pc = .ok (.astore 13, 2)) (hc : a12.category = 1) (hn : 13 < mn q) (k : WW q (pc + 2) (a0 :: a1 :: a2 :: a3 :: a4 :: a5 :: a6 :: a7 :: a8 :: a9 :: a10 :: a11 :: a12 :: .ref x :: t) st h r h') : WW q pc (a0 :: a1 :: a2 :: a3 :: a4 :: a5 :: a6 :: a7 :: a8 :: a9 :: a10 :: a11 :: a12 :: a :: t) (.ref x :: st) h r h' := by
  intro p l e s m args below meth c D ad ck H locs ls C P S A
  exact lv_astore C.1 C.2.1 hd A hn rfl (fun ls' A' => k p l e s m args below meth c D ad ck H locs ls' C P S (Has.set1 (X := [a0, a1, a2, a3, a4, a5, a6, a7, a8, a9, a10, a11, a12]) (a := a) (v := .ref x) (t := t) rfl (fun w hw => by cases hw; exact hc) A'))
theorem r_lstore_13 {q : MI} {pc : Nat} {st : List Value} {h h' : Wd} {r : Option Value} {a0 a1 a2 a3 a4 a5 a6 a7 a8 a9 a10 a11 a12 : Value} {a b : Value} {t : List Value} {x : Int64} (hd : decode (mb q) pc = .ok (.lstore 13, 2)) (hc : a12.category = 1) (hn : 13 + 1 < mn q) (k : WW q (pc + 2) (a0 :: a1 :: a2 :: a3 :: a4 :: a5 :: a6 :: a7 :: a8 :: a9 :: a10 :: a11 :: a12 :: .long x :: .null :: t) st h r h') : WW q pc (a0 :: a1 :: a2 :: a3 :: a4 :: a5 :: a6 :: a7 :: a8 :: a9 :: a10 :: a11 :: a12 :: a :: b :: t) (.long x :: st) h r h' := by
  intro p l e s m args below meth c D ad ck H locs ls C P S A
  exact lv_lstore C.1 C.2.1 hd A hn rfl (fun ls' A' => k p l e s m args below meth c D ad ck H locs ls' C P S (Has.set2 (X := [a0, a1, a2, a3, a4, a5, a6, a7, a8, a9, a10, a11, a12]) (a := a) (b := b) (v := .long x) (t := t) rfl (fun w hw => by cases hw; exact hc) A'))
theorem r_iinc_13 {q : MI} {pc : Nat} {st : List Value} {h h' : Wd} {r : Option Value} {a0 a1 a2 a3 a4 a5 a6 a7 a8 a9 a10 a11 a12 : Value} {t : List Value} {x : Int32} {n : Int} (v : Int32) (hd : decode (mb q) pc = .ok (.iinc 13 n, 3)) (hv : Int32.ofInt n = v) (hc : a12.category = 1) (hn : 13 < mn q) (k : WW q (pc + 3) (a0 :: a1 :: a2 :: a3 :: a4 :: a5 :: a6 :: a7 :: a8 :: a9 :: a10 :: a11 :: a12 :: .int (x + v) :: t) st h r h') : WW q pc (a0 :: a1 :: a2 :: a3 :: a4 :: a5 :: a6 :: a7 :: a8 :: a9 :: a10 :: a11 :: a12 :: .int x :: t) st h r h' := by
  intro p l e s m args below meth c D ad ck H locs ls C P S A
  obtain ⟨kk, hkk2⟩ := asc_ix (X := [a0, a1, a2, a3, a4, a5, a6, a7, a8, a9, a10, a11, a12]) (t := t) (x := x) (ad := ad)
  exact lv_iinc (v := x + v) C.1 C.2.1 hd A hkk2 (by rw [hv]) hn rfl (fun ls' A' => k p l e s m args below meth c D ad ck H locs ls' C P S (Has.set1 (X := [a0, a1, a2, a3, a4, a5, a6, a7, a8, a9, a10, a11, a12]) (a := .int x) (v := .int (x + v)) (t := t) rfl (fun w hw => by cases hw; exact hc) A'))
theorem r_iadd {q : MI} {pc : Nat} {st : List Value} {h h' : Wd} {r : Option Value} {L : List Value} {x y : Int32} (hd : decode (mb q) pc = .ok (.iadd, 1))  (k : WW q (pc + 1) L (.int (x + y) :: st) h r h') : WW q pc L (.int y :: .int x :: st) h r h' := by
  intro p l e s m args below meth c D ad ck H locs ls C P S A
  exact lv_iadd C.1 C.2.1 hd (k p l e s m args below meth c D ad ck H locs ls C P S A)
theorem r_isub {q : MI} {pc : Nat} {st : List Value} {h h' : Wd} {r : Option Value} {L : List Value} {x y : Int32} (hd : decode (mb q) pc = .ok (.isub, 1))  (k : WW q (pc + 1) L (.int (x - y) :: st) h r h') : WW q pc L (.int y :: .int x :: st) h r h' := by
  intro p l e s m args below meth c D ad ck H locs ls C P S A
  exact lv_isub C.1 C.2.1 hd (k p l e s m args below meth c D ad ck H locs ls C P S A)
theorem r_imul {q : MI} {pc : Nat} {st : List Value} {h h' : Wd} {r : Option Value} {L : List Value} {x y : Int32} (hd : decode (mb q) pc = .ok (.imul, 1))  (k : WW q (pc + 1) L (.int (x * y) :: st) h r h') : WW q pc L (.int y :: .int x :: st) h r h' := by
  intro p l e s m args below meth c D ad ck H locs ls C P S A
  exact lv_imul C.1 C.2.1 hd (k p l e s m args below meth c D ad ck H locs ls C P S A)
theorem r_iand {q : MI} {pc : Nat} {st : List Value} {h h' : Wd} {r : Option Value} {L : List Value} {x y : Int32} (hd : decode (mb q) pc = .ok (.iand, 1))  (k : WW q (pc + 1) L (.int (x &&& y) :: st) h r h') : WW q pc L (.int y :: .int x :: st) h r h' := by
  intro p l e s m args below meth c D ad ck H locs ls C P S A
  exact lv_iand C.1 C.2.1 hd (k p l e s m args below meth c D ad ck H locs ls C P S A)
theorem r_ior {q : MI} {pc : Nat} {st : List Value} {h h' : Wd} {r : Option Value} {L : List Value} {x y : Int32} (hd : decode (mb q) pc = .ok (.ior, 1))  (k : WW q (pc + 1) L (.int (x ||| y) :: st) h r h') : WW q pc L (.int y :: .int x :: st) h r h' := by
  intro p l e s m args below meth c D ad ck H locs ls C P S A
  exact lv_ior C.1 C.2.1 hd (k p l e s m args below meth c D ad ck H locs ls C P S A)
theorem r_ixor {q : MI} {pc : Nat} {st : List Value} {h h' : Wd} {r : Option Value} {L : List Value} {x y : Int32} (hd : decode (mb q) pc = .ok (.ixor, 1))  (k : WW q (pc + 1) L (.int (x ^^^ y) :: st) h r h') : WW q pc L (.int y :: .int x :: st) h r h' := by
  intro p l e s m args below meth c D ad ck H locs ls C P S A
  exact lv_ixor C.1 C.2.1 hd (k p l e s m args below meth c D ad ck H locs ls C P S A)
theorem r_ladd {q : MI} {pc : Nat} {st : List Value} {h h' : Wd} {r : Option Value} {L : List Value} {x y : Int64} (hd : decode (mb q) pc = .ok (.ladd, 1))  (k : WW q (pc + 1) L (.long (x + y) :: st) h r h') : WW q pc L (.long y :: .long x :: st) h r h' := by
  intro p l e s m args below meth c D ad ck H locs ls C P S A
  exact lv_ladd C.1 C.2.1 hd (k p l e s m args below meth c D ad ck H locs ls C P S A)
theorem r_lsub {q : MI} {pc : Nat} {st : List Value} {h h' : Wd} {r : Option Value} {L : List Value} {x y : Int64} (hd : decode (mb q) pc = .ok (.lsub, 1))  (k : WW q (pc + 1) L (.long (x - y) :: st) h r h') : WW q pc L (.long y :: .long x :: st) h r h' := by
  intro p l e s m args below meth c D ad ck H locs ls C P S A
  exact lv_lsub C.1 C.2.1 hd (k p l e s m args below meth c D ad ck H locs ls C P S A)
theorem r_lmul {q : MI} {pc : Nat} {st : List Value} {h h' : Wd} {r : Option Value} {L : List Value} {x y : Int64} (hd : decode (mb q) pc = .ok (.lmul, 1))  (k : WW q (pc + 1) L (.long (x * y) :: st) h r h') : WW q pc L (.long y :: .long x :: st) h r h' := by
  intro p l e s m args below meth c D ad ck H locs ls C P S A
  exact lv_lmul C.1 C.2.1 hd (k p l e s m args below meth c D ad ck H locs ls C P S A)
theorem r_land {q : MI} {pc : Nat} {st : List Value} {h h' : Wd} {r : Option Value} {L : List Value} {x y : Int64} (hd : decode (mb q) pc = .ok (.land, 1))  (k : WW q (pc + 1) L (.long (x &&& y) :: st) h r h') : WW q pc L (.long y :: .long x :: st) h r h' := by
  intro p l e s m args below meth c D ad ck H locs ls C P S A
  exact lv_land C.1 C.2.1 hd (k p l e s m args below meth c D ad ck H locs ls C P S A)
theorem r_lor {q : MI} {pc : Nat} {st : List Value} {h h' : Wd} {r : Option Value} {L : List Value} {x y : Int64} (hd : decode (mb q) pc = .ok (.lor, 1))  (k : WW q (pc + 1) L (.long (x ||| y) :: st) h r h') : WW q pc L (.long y :: .long x :: st) h r h' := by
  intro p l e s m args below meth c D ad ck H locs ls C P S A
  exact lv_lor C.1 C.2.1 hd (k p l e s m args below meth c D ad ck H locs ls C P S A)
theorem r_lxor {q : MI} {pc : Nat} {st : List Value} {h h' : Wd} {r : Option Value} {L : List Value} {x y : Int64} (hd : decode (mb q) pc = .ok (.lxor, 1))  (k : WW q (pc + 1) L (.long (x ^^^ y) :: st) h r h') : WW q pc L (.long y :: .long x :: st) h r h' := by
  intro p l e s m args below meth c D ad ck H locs ls C P S A
  exact lv_lxor C.1 C.2.1 hd (k p l e s m args below meth c D ad ck H locs ls C P S A)
theorem r_ishl {q : MI} {pc : Nat} {st : List Value} {h h' : Wd} {r : Option Value} {L : List Value} {x y : Int32} (hd : decode (mb q) pc = .ok (.ishl, 1))  (k : WW q (pc + 1) L (.int (x <<< (y &&& 31)) :: st) h r h') : WW q pc L (.int y :: .int x :: st) h r h' := by
  intro p l e s m args below meth c D ad ck H locs ls C P S A
  exact lv_ishl C.1 C.2.1 hd (k p l e s m args below meth c D ad ck H locs ls C P S A)
theorem r_ishr {q : MI} {pc : Nat} {st : List Value} {h h' : Wd} {r : Option Value} {L : List Value} {x y : Int32} (hd : decode (mb q) pc = .ok (.ishr, 1))  (k : WW q (pc + 1) L (.int (x >>> (y &&& 31)) :: st) h r h') : WW q pc L (.int y :: .int x :: st) h r h' := by
  intro p l e s m args below meth c D ad ck H locs ls C P S A
  exact lv_ishr C.1 C.2.1 hd (k p l e s m args below meth c D ad ck H locs ls C P S A)
theorem r_idiv {q : MI} {pc : Nat} {st : List Value} {h h' : Wd} {r : Option Value} {L : List Value} {x y : Int32} (hd : decode (mb q) pc = .ok (.idiv, 1)) (hne : ¬ y = 0) (k : WW q (pc + 1) L (.int (x / y) :: st) h r h') : WW q pc L (.int y :: .int x :: st) h r h' := by
  intro p l e s m args below meth c D ad ck H locs ls C P S A
  exact lv_idiv C.1 C.2.1 hd hne (k p l e s m args below meth c D ad ck H locs ls C P S A)
theorem r_irem {q : MI} {pc : Nat} {st : List Value} {h h' : Wd} {r : Option Value} {L : List Value} {x y : Int32} (hd : decode (mb q) pc = .ok (.irem, 1)) (hne : ¬ y = 0) (k : WW q (pc + 1) L (.int (x - x / y * y) :: st) h r h') : WW q pc L (.int y :: .int x :: st) h r h' := by
  intro p l e s m args below meth c D ad ck H locs ls C P S A
  exact lv_irem C.1 C.2.1 hd hne (k p l e s m args below meth c D ad ck H locs ls C P S A)
theorem r_ldiv {q : MI} {pc : Nat} {st : List Value} {h h' : Wd} {r : Option Value} {L : List Value} {x y : Int64} (hd : decode (mb q) pc = .ok (.ldiv, 1)) (hne : ¬ y = 0) (k : WW q (pc + 1) L (.long (x / y) :: st) h r h') : WW q pc L (.long y :: .long x :: st) h r h' := by
  intro p l e s m args below meth c D ad ck H locs ls C P S A
  exact lv_ldiv C.1 C.2.1 hd hne (k p l e s m args below meth c D ad ck H locs ls C P S A)
theorem r_lrem {q : MI} {pc : Nat} {st : List Value} {h h' : Wd} {r : Option Value} {L : List Value} {x y : Int64} (hd : decode (mb q) pc = .ok (.lrem, 1)) (hne : ¬ y = 0) (k : WW q (pc + 1) L (.long (x - x / y * y) :: st) h r h') : WW q pc L (.long y :: .long x :: st) h r h' := by
  intro p l e s m args below meth c D ad ck H locs ls C P S A
  exact lv_lrem C.1 C.2.1 hd hne (k p l e s m args below meth c D ad ck H locs ls C P S A)
theorem r_ineg {q : MI} {pc : Nat} {st : List Value} {h h' : Wd} {r : Option Value} {L : List Value} {x : Int32} (hd : decode (mb q) pc = .ok (.ineg, 1))  (k : WW q (pc + 1) L (.int (-x) :: st) h r h') : WW q pc L (.int x :: st) h r h' := by
  intro p l e s m args below meth c D ad ck H locs ls C P S A
  exact lv_ineg C.1 C.2.1 hd (k p l e s m args below meth c D ad ck H locs ls C P S A)
theorem r_i2l {q : MI} {pc : Nat} {st : List Value} {h h' : Wd} {r : Option Value} {L : List Value} {x : Int32} (hd : decode (mb q) pc = .ok (.i2l, 1))  (k : WW q (pc + 1) L (.long x.toInt64 :: st) h r h') : WW q pc L (.int x :: st) h r h' := by
  intro p l e s m args below meth c D ad ck H locs ls C P S A
  exact lv_i2l C.1 C.2.1 hd rfl (k p l e s m args below meth c D ad ck H locs ls C P S A)
theorem r_l2i {q : MI} {pc : Nat} {st : List Value} {h h' : Wd} {r : Option Value} {L : List Value} {x : Int64} (hd : decode (mb q) pc = .ok (.l2i, 1))  (k : WW q (pc + 1) L (.int x.toInt32 :: st) h r h') : WW q pc L (.long x :: st) h r h' := by
  intro p l e s m args below meth c D ad ck H locs ls C P S A
  exact lv_l2i C.1 C.2.1 hd rfl (k p l e s m args below meth c D ad ck H locs ls C P S A)
theorem r_iushr {q : MI} {pc : Nat} {st : List Value} {h h' : Wd} {r : Option Value} {L : List Value} {x y : Int32} (hd : decode (mb q) pc = .ok (.iushr, 1))  (k : WW q (pc + 1) L (.int (x.toUInt32 >>> (y.toUInt32 &&& Int32.toUInt32 31)).toInt32 :: st) h r h') : WW q pc L (.int y :: .int x :: st) h r h' := by
  intro p l e s m args below meth c D ad ck H locs ls C P S A
  exact lv_iushr C.1 C.2.1 hd rfl (k p l e s m args below meth c D ad ck H locs ls C P S A)
theorem r_lushr {q : MI} {pc : Nat} {st : List Value} {h h' : Wd} {r : Option Value} {L : List Value} {x : Int64} {y : Int32} (hd : decode (mb q) pc = .ok (.lushr, 1))  (k : WW q (pc + 1) L (.long (x.toUInt64 >>> (y.toInt64.toUInt64 &&& Int64.toUInt64 63)).toInt64 :: st) h r h') : WW q pc L (.int y :: .long x :: st) h r h' := by
  intro p l e s m args below meth c D ad ck H locs ls C P S A
  exact lv_lushr C.1 C.2.1 hd rfl (k p l e s m args below meth c D ad ck H locs ls C P S A)
theorem r_lshl {q : MI} {pc : Nat} {st : List Value} {h h' : Wd} {r : Option Value} {L : List Value} {x : Int64} {y : Int32} (hd : decode (mb q) pc = .ok (.lshl, 1))  (k : WW q (pc + 1) L (.long (x <<< (y.toInt64 &&& 63)) :: st) h r h') : WW q pc L (.int y :: .long x :: st) h r h' := by
  intro p l e s m args below meth c D ad ck H locs ls C P S A
  exact lv_lshl C.1 C.2.1 hd rfl (k p l e s m args below meth c D ad ck H locs ls C P S A)
theorem r_lshr {q : MI} {pc : Nat} {st : List Value} {h h' : Wd} {r : Option Value} {L : List Value} {x : Int64} {y : Int32} (hd : decode (mb q) pc = .ok (.lshr, 1))  (k : WW q (pc + 1) L (.long (x >>> (y.toInt64 &&& 63)) :: st) h r h') : WW q pc L (.int y :: .long x :: st) h r h' := by
  intro p l e s m args below meth c D ad ck H locs ls C P S A
  exact lv_lshr C.1 C.2.1 hd rfl (k p l e s m args below meth c D ad ck H locs ls C P S A)
theorem r_dup {q : MI} {pc : Nat} {st : List Value} {h h' : Wd} {r : Option Value} {L : List Value} {v : Value} (hd : decode (mb q) pc = .ok (.dup, 1)) (hc : v.category = 1) (k : WW q (pc + 1) L (v :: v :: st) h r h') : WW q pc L (v :: st) h r h' := by
  intro p l e s m args below meth c D ad ck H locs ls C P S A
  exact lv_dup C.1 C.2.1 hd (by rw [vv_cat]; exact hc) (k p l e s m args below meth c D ad ck H locs ls C P S A)
theorem r_dup2 {q : MI} {pc : Nat} {st : List Value} {h h' : Wd} {r : Option Value} {L : List Value} {v w : Value} (hd : decode (mb q) pc = .ok (.dup2, 1)) (hc : v.category = 1) (hc2 : w.category = 1) (k : WW q (pc + 1) L (v :: w :: v :: w :: st) h r h') : WW q pc L (v :: w :: st) h r h' := by
  intro p l e s m args below meth c D ad ck H locs ls C P S A
  exact lv_dup2_11 C.1 C.2.1 hd (by rw [vv_cat]; exact hc) (by rw [vv_cat]; exact hc2) (k p l e s m args below meth c D ad ck H locs ls C P S A)
theorem r_if_eq {q : MI} {pc : Nat} {st : List Value} {h h' : Wd} {r : Option Value} {L : List Value} {x : Int32} {off : Int} (tgt : Nat) (hd : decode (mb q) pc = .ok (.ifCond .eq off, 3)) (ht : (pc : Int) + off = (tgt : Int)) (kt : x = 0 → WW q tgt L st h r h') (kf : ¬ (x = 0) → WW q (pc + 3) L st h r h') : WW q pc L (.int x :: st) h r h' := by
  intro p l e s m args below meth c D ad ck H locs ls C P S A
  exact lv_if_eq C.1 C.2.1 hd ht (fun c1 => kt c1 p l e s m args below meth c D ad ck H locs ls C P S A) (fun c1 => kf c1 p l e s m args below meth c D ad ck H locs ls C P S A)
theorem r_if_ne {q : MI} {pc : Nat} {st : List Value} {h h' : Wd} {r : Option Value} {L : List Value} {x : Int32} {off : Int} (tgt : Nat) (hd : decode (mb q) pc = .ok (.ifCond .ne off, 3)) (ht : (pc : Int) + off = (tgt : Int)) (kt : ¬ x = 0 → WW q tgt L st h r h') (kf : x = 0 → WW q (pc + 3) L st h r h') : WW q pc L (.int x :: st) h r h' := by
  intro p l e s m args below meth c D ad ck H locs ls C P S A
  exact lv_if_ne C.1 C.2.1 hd ht (fun c1 => kt c1 p l e s m args below meth c D ad ck H locs ls C P S A) (fun c1 => kf c1 p l e s m args below meth c D ad ck H locs ls C P S A)
theorem r_if_lt {q : MI} {pc : Nat} {st : List Value} {h h' : Wd} {r : Option Value} {L : List Value} {x : Int32} {off : Int} (tgt : Nat) (hd : decode (mb q) pc = .ok (.ifCond .lt off, 3)) (ht : (pc : Int) + off = (tgt : Int)) (kt : x < 0 → WW q tgt L st h r h') (kf : ¬ (x < 0) → WW q (pc + 3) L st h r h') : WW q pc L (.int x :: st) h r h' := by
  intro p l e s m args below meth c D ad ck H locs ls C P S A
  exact lv_if_lt C.1 C.2.1 hd ht (fun c1 => kt c1 p l e s m args below meth c D ad ck H locs ls C P S A) (fun c1 => kf c1 p l e s m args below meth c D ad ck H locs ls C P S A)
theorem r_if_ge {q : MI} {pc : Nat} {st : List Value} {h h' : Wd} {r : Option Value} {L : List Value} {x : Int32} {off : Int} (tgt : Nat) (hd : decode (mb q) pc = .ok (.ifCond .ge off, 3)) (ht : (pc : Int) + off = (tgt : Int)) (kt : 0 ≤ x → WW q tgt L st h r h') (kf : ¬ (0 ≤ x) → WW q (pc + 3) L st h r h') : WW q pc L (.int x :: st) h r h' := by
  intro p l e s m args below meth c D ad ck H locs ls C P S A
  exact lv_if_ge C.1 C.2.1 hd ht (fun c1 => kt c1 p l e s m args below meth c D ad ck H locs ls C P S A) (fun c1 => kf c1 p l e s m args below meth c D ad ck H locs ls C P S A)
theorem r_if_gt {q : MI} {pc : Nat} {st : List Value} {h h' : Wd} {r : Option Value} {L : List Value} {x : Int32} {off : Int} (tgt : Nat) (hd : decode (mb q) pc = .ok (.ifCond .gt off, 3)) (ht : (pc : Int) + off = (tgt : Int)) (kt : 0 < x → WW q tgt L st h r h') (kf : ¬ (0 < x) → WW q (pc + 3) L st h r h') : WW q pc L (.int x :: st) h r h' := by
  intro p l e s m args below meth c D ad ck H locs ls C P S A
  exact lv_if_gt C.1 C.2.1 hd ht (fun c1 => kt c1 p l e s m args below meth c D ad ck H locs ls C P S A) (fun c1 => kf c1 p l e s m args below meth c D ad ck H locs ls C P S A)
theorem r_if_le {q : MI} {pc : Nat} {st : List Value} {h h' : Wd} {r : Option Value} {L : List Value} {x : Int32} {off : Int} (tgt : Nat) (hd : decode (mb q) pc = .ok (.ifCond .le off, 3)) (ht : (pc : Int) + off = (tgt : Int)) (kt : x ≤ 0 → WW q tgt L st h r h') (kf : ¬ (x ≤ 0) → WW q (pc + 3) L st h r h') : WW q pc L (.int x :: st) h r h' := by
  intro p l e s m args below meth c D ad ck H locs ls C P S A
  exact lv_if_le C.1 C.2.1 hd ht (fun c1 => kt c1 p l e s m args below meth c D ad ck H locs ls C P S A) (fun c1 => kf c1 p l e s m args below meth c D ad ck H locs ls C P S A)
theorem r_icmp_eq {q : MI} {pc : Nat} {st : List Value} {h h' : Wd} {r : Option Value} {L : List Value} {x y : Int32} {off : Int} (tgt : Nat) (hd : decode (mb q) pc = .ok (.if_icmp .eq off, 3)) (ht : (pc : Int) + off = (tgt : Int)) (kt : x = y → WW q tgt L st h r h') (kf : ¬ (x = y) → WW q (pc + 3) L st h r h') : WW q pc L (.int y :: .int x :: st) h r h' := by
  intro p l e s m args below meth c D ad ck H locs ls C P S A
  exact lv_icmp_eq C.1 C.2.1 hd ht (fun c1 => kt c1 p l e s m args below meth c D ad ck H locs ls C P S A) (fun c1 => kf c1 p l e s m args below meth c D ad ck H locs ls C P S A)
theorem r_icmp_ne {q : MI} {pc : Nat} {st : List Value} {h h' : Wd} {r : Option Value} {L : List Value} {x y : Int32} {off : Int} (tgt : Nat) (hd : decode (mb q) pc = .ok (.if_icmp .ne off, 3)) (ht : (pc : Int) + off = (tgt : Int)) (kt : ¬ x = y → WW q tgt L st h r h') (kf : x = y → WW q (pc + 3) L st h r h') : WW q pc L (.int y :: .int x :: st) h r h' := by
  intro p l e s m args below meth c D ad ck H locs ls C P S A
  exact lv_icmp_ne C.1 C.2.1 hd ht (fun c1 => kt c1 p l e s m args below meth c D ad ck H locs ls C P S A) (fun c1 => kf c1 p l e s m args below meth c D ad ck H locs ls C P S A)
theorem r_icmp_lt {q : MI} {pc : Nat} {st : List Value} {h h' : Wd} {r : Option Value} {L : List Value} {x y : Int32} {off : Int} (tgt : Nat) (hd : decode (mb q) pc = .ok (.if_icmp .lt off, 3)) (ht : (pc : Int) + off = (tgt : Int)) (kt : x < y → WW q tgt L st h r h') (kf : ¬ (x < y) → WW q (pc + 3) L st h r h') : WW q pc L (.int y :: .int x :: st) h r h' := by
  intro p l e s m args below meth c D ad ck H locs ls C P S A
  exact lv_icmp_lt C.1 C.2.1 hd ht (fun c1 => kt c1 p l e s m args below meth c D ad ck H locs ls C P S A) (fun c1 => kf c1 p l e s m args below meth c D ad ck H locs ls C P S A)
theorem r_icmp_ge {q : MI} {pc : Nat} {st : List Value} {h h' : Wd} {r : Option Value} {L : List Value} {x y : Int32} {off : Int} (tgt : Nat) (hd : decode (mb q) pc = .ok (.if_icmp .ge off, 3)) (ht : (pc : Int) + off = (tgt : Int)) (kt : y ≤ x → WW q tgt L st h r h') (kf : ¬ (y ≤ x) → WW q (pc + 3) L st h r h') : WW q pc L (.int y :: .int x :: st) h r h' := by
  intro p l e s m args below meth c D ad ck H locs ls C P S A
  exact lv_icmp_ge C.1 C.2.1 hd ht (fun c1 => kt c1 p l e s m args below meth c D ad ck H locs ls C P S A) (fun c1 => kf c1 p l e s m args below meth c D ad ck H locs ls C P S A)
theorem r_icmp_gt {q : MI} {pc : Nat} {st : List Value} {h h' : Wd} {r : Option Value} {L : List Value} {x y : Int32} {off : Int} (tgt : Nat) (hd : decode (mb q) pc = .ok (.if_icmp .gt off, 3)) (ht : (pc : Int) + off = (tgt : Int)) (kt : y < x → WW q tgt L st h r h') (kf : ¬ (y < x) → WW q (pc + 3) L st h r h') : WW q pc L (.int y :: .int x :: st) h r h' := by
  intro p l e s m args below meth c D ad ck H locs ls C P S A
  exact lv_icmp_gt C.1 C.2.1 hd ht (fun c1 => kt c1 p l e s m args below meth c D ad ck H locs ls C P S A) (fun c1 => kf c1 p l e s m args below meth c D ad ck H locs ls C P S A)
theorem r_icmp_le {q : MI} {pc : Nat} {st : List Value} {h h' : Wd} {r : Option Value} {L : List Value} {x y : Int32} {off : Int} (tgt : Nat) (hd : decode (mb q) pc = .ok (.if_icmp .le off, 3)) (ht : (pc : Int) + off = (tgt : Int)) (kt : x ≤ y → WW q tgt L st h r h') (kf : ¬ (x ≤ y) → WW q (pc + 3) L st h r h') : WW q pc L (.int y :: .int x :: st) h r h' := by
  intro p l e s m args below meth c D ad ck H locs ls C P S A
  exact lv_icmp_le C.1 C.2.1 hd ht (fun c1 => kt c1 p l e s m args below meth c D ad ck H locs ls C P S A) (fun c1 => kf c1 p l e s m args below meth c D ad ck H locs ls C P S A)
theorem lgc_eq (x y : Int64) : lg_cmp x y = 0 ↔ x = y := by
  unfold lg_cmp
  simp only [gt_iff_lt, Int64.lt_iff_toInt_lt, ← Int64.toInt_inj]
  split
  · rename_i h; constructor
    · intro z; cases z
    · intro z; omega
  · split <;> simp_all
theorem lgc_lt (x y : Int64) : lg_cmp x y < 0 ↔ x < y := by
  unfold lg_cmp
  simp only [gt_iff_lt, Int64.lt_iff_toInt_lt, ← Int64.toInt_inj]
  split
  · rename_i h; constructor
    · intro z; exact absurd z (by decide)
    · intro z; omega
  · split
    · rename_i h1 h2; constructor
      · intro z; exact absurd z (by decide)
      · intro z; omega
    · constructor
      · intro _; omega
      · intro _; decide
theorem lgc_gt (x y : Int64) : 0 < lg_cmp x y ↔ y < x := by
  unfold lg_cmp
  simp only [gt_iff_lt, Int64.lt_iff_toInt_lt, ← Int64.toInt_inj]
  split
  · rename_i h; constructor
    · intro z; exact h
    · intro z; decide
  · split
    · rename_i h1 h2; constructor
      · intro z; exact absurd z (by decide)
      · intro z; omega
    · rename_i h1 h2; constructor
      · intro z; exact absurd z (by decide)
      · intro z; omega
theorem lgc_le (x y : Int64) : lg_cmp x y ≤ 0 ↔ x ≤ y := by
  rw [← Int32.not_lt, lgc_gt, Int64.not_lt]
theorem r_lcmp_eq {q : MI} {pc : Nat} {st : List Value} {h h' : Wd} {r : Option Value} {L : List Value} {x y : Int64} {off : Int} (tgt : Nat) (hd0 : decode (mb q) pc = .ok (.lcmp, 1)) (hd : decode (mb q) (pc + 1) = .ok (.ifCond .eq off, 3)) (ht : ((pc + 1 : Nat) : Int) + off = (tgt : Int)) (kt : x = y → WW q tgt L st h r h') (kf : ¬ (x = y) → WW q (pc + 1 + 3) L st h r h') : WW q pc L (.long y :: .long x :: st) h r h' := by
  intro p l e s m args below meth c D ad ck H locs ls C P S A
  exact W.lcmp C.1 C.2.1 hd0 (lv_if_eq C.1 C.2.1 hd ht (fun c1 => kt ((lgc_eq x y).mp c1) p l e s m args below meth c D ad ck H locs ls C P S A) (fun c1 => kf (fun z => c1 ((lgc_eq x y).mpr z)) p l e s m args below meth c D ad ck H locs ls C P S A))
theorem r_lcmp_ne {q : MI} {pc : Nat} {st : List Value} {h h' : Wd} {r : Option Value} {L : List Value} {x y : Int64} {off : Int} (tgt : Nat) (hd0 : decode (mb q) pc = .ok (.lcmp, 1)) (hd : decode (mb q) (pc + 1) = .ok (.ifCond .ne off, 3)) (ht : ((pc + 1 : Nat) : Int) + off = (tgt : Int)) (kt : ¬ x = y → WW q tgt L st h r h') (kf : x = y → WW q (pc + 1 + 3) L st h r h') : WW q pc L (.long y :: .long x :: st) h r h' := by
  intro p l e s m args below meth c D ad ck H locs ls C P S A
  exact W.lcmp C.1 C.2.1 hd0 (lv_if_ne C.1 C.2.1 hd ht (fun c1 => kt (fun z => c1 ((lgc_eq x y).mpr z)) p l e s m args below meth c D ad ck H locs ls C P S A) (fun c1 => kf ((lgc_eq x y).mp c1) p l e s m args below meth c D ad ck H locs ls C P S A))
theorem r_lcmp_lt {q : MI} {pc : Nat} {st : List Value} {h h' : Wd} {r : Option Value} {L : List Value} {x y : Int64} {off : Int} (tgt : Nat) (hd0 : decode (mb q) pc = .ok (.lcmp, 1)) (hd : decode (mb q) (pc + 1) = .ok (.ifCond .lt off, 3)) (ht : ((pc + 1 : Nat) : Int) + off = (tgt : Int)) (kt : x < y → WW q tgt L st h r h') (kf : ¬ (x < y) → WW q (pc + 1 + 3) L st h r h') : WW q pc L (.long y :: .long x :: st) h r h' := by
  intro p l e s m args below meth c D ad ck H locs ls C P S A
  exact W.lcmp C.1 C.2.1 hd0 (lv_if_lt C.1 C.2.1 hd ht (fun c1 => kt ((lgc_lt x y).mp c1) p l e s m args below meth c D ad ck H locs ls C P S A) (fun c1 => kf (fun z => c1 ((lgc_lt x y).mpr z)) p l e s m args below meth c D ad ck H locs ls C P S A))
theorem r_lcmp_gt {q : MI} {pc : Nat} {st : List Value} {h h' : Wd} {r : Option Value} {L : List Value} {x y : Int64} {off : Int} (tgt : Nat) (hd0 : decode (mb q) pc = .ok (.lcmp, 1)) (hd : decode (mb q) (pc + 1) = .ok (.ifCond .gt off, 3)) (ht : ((pc + 1 : Nat) : Int) + off = (tgt : Int)) (kt : y < x → WW q tgt L st h r h') (kf : ¬ (y < x) → WW q (pc + 1 + 3) L st h r h') : WW q pc L (.long y :: .long x :: st) h r h' := by
  intro p l e s m args below meth c D ad ck H locs ls C P S A
  exact W.lcmp C.1 C.2.1 hd0 (lv_if_gt C.1 C.2.1 hd ht (fun c1 => kt ((lgc_gt x y).mp c1) p l e s m args below meth c D ad ck H locs ls C P S A) (fun c1 => kf (fun z => c1 ((lgc_gt x y).mpr z)) p l e s m args below meth c D ad ck H locs ls C P S A))
theorem r_lcmp_le {q : MI} {pc : Nat} {st : List Value} {h h' : Wd} {r : Option Value} {L : List Value} {x y : Int64} {off : Int} (tgt : Nat) (hd0 : decode (mb q) pc = .ok (.lcmp, 1)) (hd : decode (mb q) (pc + 1) = .ok (.ifCond .le off, 3)) (ht : ((pc + 1 : Nat) : Int) + off = (tgt : Int)) (kt : x ≤ y → WW q tgt L st h r h') (kf : ¬ (x ≤ y) → WW q (pc + 1 + 3) L st h r h') : WW q pc L (.long y :: .long x :: st) h r h' := by
  intro p l e s m args below meth c D ad ck H locs ls C P S A
  exact W.lcmp C.1 C.2.1 hd0 (lv_if_le C.1 C.2.1 hd ht (fun c1 => kt ((lgc_le x y).mp c1) p l e s m args below meth c D ad ck H locs ls C P S A) (fun c1 => kf (fun z => c1 ((lgc_le x y).mpr z)) p l e s m args below meth c D ad ck H locs ls C P S A))
theorem r_lcmp_ge {q : MI} {pc : Nat} {st : List Value} {h h' : Wd} {r : Option Value} {L : List Value} {x y : Int64} {off : Int} (tgt : Nat) (hd0 : decode (mb q) pc = .ok (.lcmp, 1)) (hd : decode (mb q) (pc + 1) = .ok (.ifCond .ge off, 3)) (ht : ((pc + 1 : Nat) : Int) + off = (tgt : Int)) (kt : y ≤ x → WW q tgt L st h r h') (kf : ¬ (y ≤ x) → WW q (pc + 1 + 3) L st h r h') : WW q pc L (.long y :: .long x :: st) h r h' := by
  intro p l e s m args below meth c D ad ck H locs ls C P S A
  exact W.lcmp C.1 C.2.1 hd0 (lv_if_ge C.1 C.2.1 hd ht (fun c1 => kt ((lg_cmp_ge x y).mp c1) p l e s m args below meth c D ad ck H locs ls C P S A) (fun c1 => kf (fun z => c1 ((lg_cmp_ge x y).mpr z)) p l e s m args below meth c D ad ck H locs ls C P S A))
theorem r_goto {q : MI} {pc : Nat} {L st : List Value} {h h' : Wd} {r : Option Value} {off : Int} (tgt : Nat) (hd : decode (mb q) pc = .ok (.goto off, 3)) (ht : (pc : Int) + off = (tgt : Int)) (k : WW q tgt L st h r h') : WW q pc L st h r h' := by
  intro p l e s m args below meth c D ad ck H locs ls C P S A
  exact lv_goto C.1 C.2.1 hd ht (k p l e s m args below meth c D ad ck H locs ls C P S A)
theorem r_tabOut {q : MI} {pc : Nat} {L st : List Value} {h h' : Wd} {r : Option Value} {dflt lo hi : Int} {offs : Array Int} {len : Nat} {x : Int32} (tgt : Nat) (hd : decode (mb q) pc = .ok (.tableswitch dflt lo hi offs, len)) (hx : x.toInt < lo ∨ hi < x.toInt) (ht : (pc : Int) + dflt = (tgt : Int)) (k : WW q tgt L st h r h') : WW q pc L (.int x :: st) h r h' := by
  intro p l e s m args below meth c D ad ck H locs ls C P S A
  exact lv_tableOut C.1 C.2.1 hd hx ht (k p l e s m args below meth c D ad ck H locs ls C P S A)
theorem r_tabIn {q : MI} {pc : Nat} {L st : List Value} {h h' : Wd} {r : Option Value} {dflt lo hi : Int} {offs : Array Int} {len : Nat} {x : Int32} {off : Int} (v : Int) (tgt : Nat) (hd : decode (mb q) pc = .ok (.tableswitch dflt lo hi offs, len)) (hx : x.toInt = v) (h1 : ¬ v < lo) (h2 : ¬ hi < v) (ho : offs[(v - lo).toNat]? = some off) (ht : (pc : Int) + off = (tgt : Int)) (k : WW q tgt L st h r h') : WW q pc L (.int x :: st) h r h' := by
  intro p l e s m args below meth c D ad ck H locs ls C P S A
  subst hx
  exact lv_tableIn C.1 C.2.1 hd h1 h2 ho ht (k p l e s m args below meth c D ad ck H locs ls C P S A)
theorem r_look {q : MI} {pc : Nat} {L st : List Value} {h h' : Wd} {r : Option Value} {dflt : Int} {ps : Array (Int × Int)} {len : Nat} {x : Int32} {off : Int} (tgt : Nat) (hd : decode (mb q) pc = .ok (.lookupswitch dflt ps, len)) (hp : (ps.toList.zip (ps.toList.drop 1)).all (fun (a, next) => a.1 < next.1) = true) (ho : Op.lookupswitch.offset ps.toList dflt x.toInt = off) (ht : (pc : Int) + off = (tgt : Int)) (k : WW q tgt L st h r h') : WW q pc L (.int x :: st) h r h' := by
  intro p l e s m args below meth c D ad ck H locs ls C P S A
  exact lv_lookup C.1 C.2.1 hd hp ho ht (k p l e s m args below meth c D ad ck H locs ls C P S A)
theorem r_iret {q : MI} {pc : Nat} {L : List Value} {h h' : Wd} {r : Option Value} {v : Int32} (hd : decode (mb q) pc = .ok (.ireturn, 1)) (hr : mr q = some .int) (hv : some (.int v) = r) (hh : h = h') : WW q pc L [.int v] h r h' := by
  intro p l e s m args below meth c D ad ck H locs ls C P S A
  subst hv; subst hh
  exact W.iret C.1 C.2.1 (C.2.2.2.2.2.1.trans hr) (fun t ht hW => ⟨⟨rfl, C.iv P S ht hW⟩, S.F ht⟩) S.2.2 hd C.2.2.2.2.2.2.1
theorem r_zret {q : MI} {pc : Nat} {L : List Value} {h h' : Wd} {r : Option Value} {v : Int32} (hd : decode (mb q) pc = .ok (.ireturn, 1)) (hr : mr q = some .boolean) (hn : narrow .boolean (.int v) = .int v) (hv : some (.int v) = r) (hh : h = h') : WW q pc L [.int v] h r h' := by
  intro p l e s m args below meth c D ad ck H locs ls C P S A
  subst hv; subst hh
  exact W.zret C.1 C.2.1 (C.2.2.2.2.2.1.trans hr) hn (fun t ht hW => ⟨⟨rfl, C.iv P S ht hW⟩, S.F ht⟩) S.2.2 hd C.2.2.2.2.2.2.1
theorem r_lret {q : MI} {pc : Nat} {L : List Value} {h h' : Wd} {r : Option Value} {v : Int64} (hd : decode (mb q) pc = .ok (.lreturn, 1)) (hr : mr q = some .long) (hv : some (.long v) = r) (hh : h = h') : WW q pc L [.long v] h r h' := by
  intro p l e s m args below meth c D ad ck H locs ls C P S A
  subst hv; subst hh
  exact W.lret C.1 C.2.1 (C.2.2.2.2.2.1.trans hr) (fun t ht hW => ⟨⟨rfl, C.iv P S ht hW⟩, S.F ht⟩) S.2.2 hd C.2.2.2.2.2.2.1
theorem r_vret {q : MI} {pc : Nat} {L : List Value} {h h' : Wd} {r : Option Value} (hd : decode (mb q) pc = .ok (.return_, 1)) (hr : mr q = none) (hv : none = r) (hh : h = h') : WW q pc L [] h r h' := by
  intro p l e s m args below meth c D ad ck H locs ls C P S A
  subst hv; subst hh
  exact W.vret C.1 C.2.1 (C.2.2.2.2.2.1.trans hr) (fun t ht hW => ⟨⟨rfl, C.iv P S ht hW⟩, S.F ht⟩) S.2.2 hd C.2.2.2.2.2.2.1
theorem r_aret {q : MI} {pc : Nat} {L : List Value} {h h' : Wd} {r : Option Value} {a : Nat} {n : String} (hd : decode (mb q) pc = .ok (.areturn, 1)) (hr : mr q = some (.object n)) (hv : some (.ref a) = r) (hh : h = h') : WW q pc L [.ref a] h r h' := by
  intro p l e s m args below meth c D ad ck H locs ls C P S A
  subst hv; subst hh
  exact W.aret (v := .ref (ad a)) C.1 C.2.1 (C.2.2.2.2.2.1.trans hr) (Or.inl ⟨n, rfl⟩) (Or.inr ⟨_, rfl⟩) (fun t ht hW => ⟨⟨rfl, C.iv P S ht hW⟩, S.F ht⟩) S.2.2 hd C.2.2.2.2.2.2.1
theorem r_get {q : MI} {pc idx ci n a k : Nat} {L st fs : List Value} {h h' : Wd} {r : Option Value} {v : Value} {C0 : String} {T : u_T} (hd : decode (mb q) pc = .ok (.getfield idx, 3)) (hcl : vwCl[ci]? = some (C0, T, n)) (hin : ∀ w ∈ u_ws C0 T n, w ∈ gt) (hl : Cond.fieldLink (my q).cls idx (T k).1 (T k).2.1 (T k).2.2.1 ∈ gt) (hk : k < n) (ha : a < 76) (hh : h a = .inr (ci, fs)) (hv : fs[k]? = some v) (kk : WW q (pc + 3) L (v :: st) h r h') : WW q pc L (.ref a :: st) h r h' := by
  intro p l e s m args below meth c D ad ck H locs ls C P S A
  have hts : ∀ w ∈ gt, w.before args s = true := C.2.2.2.2.1
  exact va_get (D := D) (Ts := gt) C.1 C.2.1 hts hin C.2.2.2.1 C.2.2.2.2.2.2.2.1 P a (by rw [mkw_get ha, hh]; rfl) hcl k hk (hts _ hl) (fun _ z => z) (v := vv ad v) (by rw [List.getElem?_map, hv]; rfl) hd (kk p l e s m args below meth c D ad ck H locs ls C P S A)
theorem r_getN {q : MI} {pc idx ci n a k : Nat} {host : String} {L st fs : List Value} {h h' : Wd} {r : Option Value} {v : Value} {C0 : String} {T : u_T} (hd : decode (mb q) pc = .ok (.getfield idx, 3)) (hcl : vwCl[ci]? = some (C0, T, n)) (hin : ∀ w ∈ u_ws C0 T n, w ∈ gt) (hl : ((my q).cls, idx, (T k).1, (T k).2.1, (T k).2.2.1, host) ∈ nestF) (hk : k < n) (ha : a < 76) (hh : h a = .inr (ci, fs)) (hv : fs[k]? = some v) (kk : WW q (pc + 3) L (v :: st) h r h') : WW q pc L (.ref a :: st) h r h' := by
  intro p l e s m args below meth c D ad ck H locs ls C P S A
  have hts : ∀ w ∈ gt, w.before args s = true := C.2.2.2.2.1
  exact va_getN (D := D) (Ts := gt) (host := host) C.1 C.2.1 hts hin C.2.2.2.1 C.2.2.2.2.2.2.2.1 P a (by rw [mkw_get ha, hh]; rfl) hcl k hk (va_Nw.use rfl (C.2.2.2.2.2.2.2.2.1.1 _ hl)) (fun _ z => z) (v := vv ad v) (by rw [List.getElem?_map, hv]; rfl) hd (kk p l e s m args below meth c D ad ck H locs ls C P S A)
theorem nar_vv {ad : Nat → Nat} {ty : FieldType} {v : Value} (h : narrow ty v = v) : narrow ty (vv ad v) = vv ad v := by
  cases v <;> first | exact h | (cases ty <;> rfl)
theorem fit_vv {ad : Nat → Nat} {ty : FieldType} {v : Value} (h : fits ty v = true) : fits ty (vv ad v) = true := by
  cases v <;> first | exact h | (cases ty <;> exact h)
theorem set_vv {ad : Nat → Nat} {fs : List Value} {k : Nat} {v : Value} : (fs.map (vv ad)).set k (vv ad v) = (fs.set k v).map (vv ad) := by
  rw [List.map_set]
theorem r_put {q : MI} {pc idx ci n a k : Nat} {L st fs : List Value} {h h' : Wd} {r : Option Value} {v : Value} {ty : FieldType} {C0 : String} {T : u_T} {ty0 : Nat → FieldType} (hd : decode (mb q) pc = .ok (.putfield idx, 3)) (hcl : vwCl[ci]? = some (C0, T, n)) (hin : ∀ w ∈ u_ws C0 T n, w ∈ gt) (hty : ∀ k, k < n → parseFieldDescriptor (T k).2.2.1 = some (ty0 k)) (hnm : ∀ a, a < n → ∀ b, b < n → a ≠ b → (T a).2.1 ≠ (T b).2.1) (hl : Cond.fieldLink (my q).cls idx (T k).1 (T k).2.1 (T k).2.2.1 ∈ gt) (hk : k < n) (hf : (T k).2.2.2 = false) (hdn : parseFieldDescriptor (T k).2.2.1 = some ty) (hn : narrow ty v = v) (hfit : fits ty v = true) (ha : a < 76) (hh : h a = .inr (ci, fs)) (hlt : k < fs.length) (kk : WW q (pc + 3) L st (va_up h a (.inr (ci, fs.set k v))) r h') : WW q pc L (v :: .ref a :: st) h r h' := by
  intro p l e s m args below meth c D ad ck H locs ls C P S A
  have hts : ∀ w ∈ gt, w.before args s = true := C.2.2.2.2.1
  refine va_put (D := D) (Ts := gt) C.1 C.2.1 hts hin ty0 hty hnm C.2.2.2.1 C.2.2.2.2.2.2.2.1 P (mkw_D C.2.2.2.2.2.2.2.2.2.2) S a (by rw [mkw_get ha, hh]; rfl) hcl k hk (hts _ hl) (fun _ z => z) hf hdn (nar_vv hn) (fit_vv hfit) (by rw [List.length_map]; exact hlt) hd (fun H1 locs1 P1 _ S1 => ?_)
  rw [set_vv, show (Sum.inr (ci, (fs.set k v).map (vv ad)) : va_E) = ce ad ck (.inr (ci, fs.set k v)) from rfl, mkw_set _ ha] at P1
  exact kk p l e s m args below meth c D ad ck H1 locs1 ls C P1 S1 A
theorem r_iald {q : MI} {pc n a : Nat} {L st : List Value} {h h' : Wd} {r : Option Value} {f : Nat → Int32} {i : Int32} (hd : decode (mb q) pc = .ok (.iaload, 1)) (ha : a < 76) (hh : h a = .inl (0, n, .inl f)) (hi : vp_in i n) (k : WW q (pc + 1) L (.int (f i.toNatClampNeg) :: st) h r h') : WW q pc L (.int i :: .ref a :: st) h r h' := by
  intro p l e s m args below meth c D ad ck H locs ls C P S A
  exact va_iald (D := D) C.1 C.2.1 C.2.2.2.2.2.2.2.1 P a 0 (cA := ck 0) (n := n) (f := f) (by rw [mkw_get ha, hh]; rfl) rfl hi hd (k p l e s m args below meth c D ad ck H locs ls C P S A)
theorem r_lald {q : MI} {pc n a : Nat} {L st : List Value} {h h' : Wd} {r : Option Value} {f : Nat → Int64} {i : Int32} (hd : decode (mb q) pc = .ok (.laload, 1)) (ha : a < 76) (hh : h a = .inl (1, n, .inr (.inl f))) (hi : vp_in i n) (k : WW q (pc + 1) L (.long (f i.toNatClampNeg) :: st) h r h') : WW q pc L (.int i :: .ref a :: st) h r h' := by
  intro p l e s m args below meth c D ad ck H locs ls C P S A
  exact va_lald (D := D) C.1 C.2.1 C.2.2.2.2.2.2.2.1 P a 1 (cA := ck 1) (n := n) (f := f) (by rw [mkw_get ha, hh]; rfl) rfl hi hd (k p l e s m args below meth c D ad ck H locs ls C P S A)
theorem r_zald {q : MI} {pc n a : Nat} {L st : List Value} {h h' : Wd} {r : Option Value} {f : Nat → Int32} {i : Int32} (hd : decode (mb q) pc = .ok (.baload, 1)) (ha : a < 76) (hh : h a = .inl (2, n, .inl f)) (hi : vp_in i n) (k : WW q (pc + 1) L (.int (f i.toNatClampNeg) :: st) h r h') : WW q pc L (.int i :: .ref a :: st) h r h' := by
  intro p l e s m args below meth c D ad ck H locs ls C P S A
  exact va_zald (D := D) C.1 C.2.1 C.2.2.2.2.2.2.2.1 P a 2 (cA := ck 2) (n := n) (f := f) (by rw [mkw_get ha, hh]; rfl) rfl hi hd (k p l e s m args below meth c D ad ck H locs ls C P S A)
theorem r_iast {q : MI} {pc n a : Nat} {L st : List Value} {h h' : Wd} {r : Option Value} {f : Nat → Int32} {i x : Int32} (hd : decode (mb q) pc = .ok (.iastore, 1)) (ha : a < 76) (hh : h a = .inl (0, n, .inl f)) (hi : vp_in i n) (k : WW q (pc + 1) L st (va_up h a (.inl (0, n, .inl (upd f i.toNatClampNeg x)))) r h') : WW q pc L (.int x :: .int i :: .ref a :: st) h r h' := by
  intro p l e s m args below meth c D ad ck H locs ls C P S A
  refine va_iast (D := D) C.1 C.2.1 C.2.2.2.2.2.2.2.1 P (mkw_D C.2.2.2.2.2.2.2.2.2.2) S a 0 (cA := ck 0) (n := n) (f := f) (by rw [mkw_get ha, hh]; rfl) rfl hi hd (fun H1 locs1 P1 _ S1 => ?_)
  rw [show (Sum.inl (ck 0, n, Sum.inl (upd f i.toNatClampNeg x)) : va_E) = ce ad ck (.inl (0, n, .inl (upd f i.toNatClampNeg x))) from rfl, mkw_set _ ha] at P1
  exact k p l e s m args below meth c D ad ck H1 locs1 ls C P1 S1 A
theorem r_last {q : MI} {pc n a : Nat} {L st : List Value} {h h' : Wd} {r : Option Value} {f : Nat → Int64} {i : Int32} {x : Int64} (hd : decode (mb q) pc = .ok (.lastore, 1)) (ha : a < 76) (hh : h a = .inl (1, n, .inr (.inl f))) (hi : vp_in i n) (k : WW q (pc + 1) L st (va_up h a (.inl (1, n, .inr (.inl (vp_updL f i.toNatClampNeg x))))) r h') : WW q pc L (.long x :: .int i :: .ref a :: st) h r h' := by
  intro p l e s m args below meth c D ad ck H locs ls C P S A
  refine va_last (D := D) C.1 C.2.1 C.2.2.2.2.2.2.2.1 P (mkw_D C.2.2.2.2.2.2.2.2.2.2) S a 1 (cA := ck 1) (n := n) (f := f) (by rw [mkw_get ha, hh]; rfl) rfl hi hd (fun H1 locs1 P1 _ S1 => ?_)
  rw [show (Sum.inl (ck 1, n, Sum.inr (Sum.inl (vp_updL f i.toNatClampNeg x))) : va_E) = ce ad ck (.inl (1, n, .inr (.inl (vp_updL f i.toNatClampNeg x)))) from rfl, mkw_set _ ha] at P1
  exact k p l e s m args below meth c D ad ck H1 locs1 ls C P1 S1 A
theorem r_zast {q : MI} {pc n a : Nat} {L st : List Value} {h h' : Wd} {r : Option Value} {f : Nat → Int32} {i x : Int32} (hd : decode (mb q) pc = .ok (.bastore, 1)) (ha : a < 76) (hh : h a = .inl (2, n, .inl f)) (hi : vp_in i n) (k : WW q (pc + 1) L st (va_up h a (.inl (2, n, .inl (upd f i.toNatClampNeg (vp_nar .boolean x))))) r h') : WW q pc L (.int x :: .int i :: .ref a :: st) h r h' := by
  intro p l e s m args below meth c D ad ck H locs ls C P S A
  refine va_zast (D := D) C.1 C.2.1 C.2.2.2.2.2.2.2.1 P (mkw_D C.2.2.2.2.2.2.2.2.2.2) S a 2 (cA := ck 2) (n := n) (f := f) (by rw [mkw_get ha, hh]; rfl) rfl hi hd (fun H1 locs1 P1 _ S1 => ?_)
  rw [show (Sum.inl (ck 2, n, Sum.inl (upd f i.toNatClampNeg (vp_nar .boolean x))) : va_E) = ce ad ck (.inl (2, n, .inl (upd f i.toNatClampNeg (vp_nar .boolean x)))) from rfl, mkw_set _ ha] at P1
  exact k p l e s m args below meth c D ad ck H1 locs1 ls C P1 S1 A
theorem r_ialen {q : MI} {pc n a : Nat} {L st : List Value} {h h' : Wd} {r : Option Value} {f : Nat → Int32} (hd : decode (mb q) pc = .ok (.arraylength, 1)) (ha : a < 76) (hh : h a = .inl (0, n, .inl f)) (k : WW q (pc + 1) L (.int (Int32.ofNat n) :: st) h r h') : WW q pc L (.ref a :: st) h r h' := by
  intro p l e s m args below meth c D ad ck H locs ls C P S A
  exact va_alen (D := D) C.1 C.2.1 C.2.2.2.2.2.2.2.1 P a 0 (cA := ck 0) (x := (n, .inl f)) (by rw [mkw_get ha, hh]; rfl) (ty := .int) rfl rfl hd (k p l e s m args below meth c D ad ck H locs ls C P S A)
/-- the static row of signs -/
theorem r_gets {q : MI} {pc idx : Nat} {host : String} {L st : List Value} {h h' : Wd} {r : Option Value} (hd : decode (mb q) pc = .ok (.getstatic idx, 3)) (hl : ((my q).cls, idx, "SnoresGold", "DEED_SIGNS", "[C", host) ∈ nestF) (k : WW q (pc + 3) L (.ref 99 :: st) h r h') : WW q pc L st h r h' := by
  intro p l e s m args below meth c D ad ck H locs ls C P S A
  exact va_getsN (host := host) C.1 C.2.1 C.2.2.2.2.2.2.2.2.2.1.1 S C.2.2.2.1 (va_Nw.use rfl (C.2.2.2.2.2.2.2.2.1.1 _ hl)) (fun _ z => z) hd (k p l e s m args below meth c D ad ck H locs ls C P S A)
theorem r_slen {q : MI} {pc : Nat} {L st : List Value} {h h' : Wd} {r : Option Value} (hd : decode (mb q) pc = .ok (.arraylength, 1)) (k : WW q (pc + 1) L (.int 9 :: st) h r h') : WW q pc L (.ref 99 :: st) h r h' := by
  intro p l e s m args below meth c D ad ck H locs ls C P S A
  exact va_tlen C.1 C.2.1 C.2.2.2.2.2.2.2.2.2.1.2 S rfl hd (k p l e s m args below meth c D ad ck H locs ls C P S A)
theorem r_scald {q : MI} {pc : Nat} {L st : List Value} {h h' : Wd} {r : Option Value} {i : Int32} (hd : decode (mb q) pc = .ok (.caload, 1)) (hi : vp_in i 9) (k : WW q (pc + 1) L (.int (dsg i.toNatClampNeg) :: st) h r h') : WW q pc L (.int i :: .ref 99 :: st) h r h' := by
  intro p l e s m args below meth c D ad ck H locs ls C P S A
  exact va_tc C.1 C.2.1 C.2.2.2.2.2.2.2.2.2.1.2 S hi rfl hd (k p l e s m args below meth c D ad ck H locs ls C P S A)
theorem r_max {q : MI} {pc idx : Nat} {L st : List Value} {h h' : Wd} {r : Option Value} {x y : Int32} (hd : decode (mb q) pc = .ok (.invokestatic idx, 3)) (hl : Cond.methodLink (my q).cls idx Lib.Math.max.name ∈ gt) (hf : 1 ≤ mf q) (hlo : osum st + 13 ≤ mo q) (k : WW q (pc + 3) L (.int (if x < y then y else x) :: st) h r h') : WW q pc L (.int y :: .int x :: st) h r h' := by
  intro p l e s m args below meth c D ad ck H locs ls C P S A
  have hts : ∀ w ∈ gt, w.before args s = true := C.2.2.2.2.1
  exact va_mmax C.1 C.2.1 (C.2.2.1.trans A.1.symm) C.2.2.2.1 (hts _ hl) (hts _ sta_mmax) (hts _ ini_RJ9) (hts _ cod_mmax) hf (by rw [cat_sum]; exact hlo) (Nat.zero_le _) (Nat.zero_le _) hd (k p l e s m args below meth c D ad ck H locs ls C P S A)
theorem r_min {q : MI} {pc idx : Nat} {L st : List Value} {h h' : Wd} {r : Option Value} {x y : Int32} (hd : decode (mb q) pc = .ok (.invokestatic idx, 3)) (hl : Cond.methodLink (my q).cls idx Lib.Math.min.name ∈ gt) (hf : 1 ≤ mf q) (hlo : osum st + 13 ≤ mo q) (k : WW q (pc + 3) L (.int (if y < x then y else x) :: st) h r h') : WW q pc L (.int y :: .int x :: st) h r h' := by
  intro p l e s m args below meth c D ad ck H locs ls C P S A
  have hts : ∀ w ∈ gt, w.before args s = true := C.2.2.2.2.1
  exact va_mmin C.1 C.2.1 (C.2.2.1.trans A.1.symm) C.2.2.2.1 (hts _ hl) (hts _ sta_mmin) (hts _ ini_RJ9) (hts _ cod_mmin) hf (by rw [cat_sum]; exact hlo) (Nat.zero_le _) (Nat.zero_le _) hd (k p l e s m args below meth c D ad ck H locs ls C P S A)
theorem r_abs {q : MI} {pc idx : Nat} {L st : List Value} {h h' : Wd} {r : Option Value} {x : Int32} (hd : decode (mb q) pc = .ok (.invokestatic idx, 3)) (hl : Cond.methodLink (my q).cls idx Lib.Math.abs.name ∈ gt) (hf : 1 ≤ mf q) (hlo : osum st + 13 ≤ mo q) (k : WW q (pc + 3) L (.int (if 0 ≤ x then x else 0 - x) :: st) h r h') : WW q pc L (.int x :: st) h r h' := by
  intro p l e s m args below meth c D ad ck H locs ls C P S A
  have hts : ∀ w ∈ gt, w.before args s = true := C.2.2.2.2.1
  exact va_mabs C.1 C.2.1 (C.2.2.1.trans A.1.symm) C.2.2.2.1 (hts _ hl) (hts _ sta_mabs) (hts _ ini_RJ9) (hts _ cod_mabs) hf (by rw [cat_sum]; exact hlo) (Nat.zero_le _) (Nat.zero_le _) hd (k p l e s m args below meth c D ad ck H locs ls C P S A)
