/-! CONSTRUCTORS: a world that grows, as a list of cells -/
theorem nd_of : ∀ {l : List Nat}, l.Nodup → va_nd l = true
  | [], _ => rfl
  | a :: l, h => by
    rw [va_nd, nd_of (List.nodup_cons.mp h).2, Bool.and_true]
    exact decide_eq_true (List.nodup_cons.mp h).1
theorem nd_range (n : Nat) : va_nd (List.range n) = true := nd_of List.nodup_range
theorem range_get {α : Type} (w t : List α) : (List.range w.length).map (fun i => (w ++ t)[i]?) = w.map some := by
  apply List.ext_getElem?
  intro i
  rw [List.getElem?_map, List.getElem?_map]
  by_cases hi : i < w.length
  · rw [List.getElem?_range hi]
    show some ((w ++ t)[i]?) = _
    rw [List.getElem?_append_left hi, List.getElem?_eq_getElem hi]
    rfl
  · rw [List.getElem?_eq_none (by simp; omega), List.getElem?_eq_none (by omega)]
    rfl
theorem last_get {α : Type} (w : List α) (x : α) : [w.length].map (fun i => (w ++ [x])[i]?) = [x].map some := by simp
theorem last_fm {α : Type} (w : List α) (x : α) : [w.length].filterMap (fun i => (w ++ [x])[i]?) = [x] := by simp
def KX (q : MI) (p : Program) (s : State) (m : MethodId) (args : Array Value) (c : Code) (D : va_G) (ck : Nat → ClassId) (A : Nat → Prop) : Prop :=
  p.tables.exec = Jvm.exec ∧ c.code = mb q ∧ c.maxLocals = mn q ∧ s.vm.findClass (my q).cls = some m.cls ∧ (∀ w ∈ gt, w.before args s = true) ∧ va_K D vwCl (tysOf ck) s ∧ NST s ∧ ∀ z : Nat, s.heap.size ≤ z → A z
def KW (q : MI) (p : Program) (l : Launch) (e : Env) (R : Room) (s : State) (m : MethodId) (args : Array Value) (below : List Frame) (meth : Method) (c : Code) (Q : State → Prop) (D : va_G) (A : Nat → Prop) (pc : Nat) (L : List (Nat × Value)) (st : List Value) (ws : va_W) (cells slots : Nat) : Prop :=
  ∀ (H : Heap) (locs : List Loc) (ls : Array Slot), va_P D vwCl ws H → va_D A ws → va_S A s.heap H locs → lv_has ls (mn q) L → W p l e R s m args below meth c H locs cells slots Q (F0 m pc ls st)
/-- a constructor's contract: from the fresh object, the cells that it makes, at addresses a 0, a 1 .. -/
def KC (q : MI) (ci : Nat) (fs : List Value) (Ws : (Nat → ClassId) → Nat → (Nat → Nat) → va_W) (mc ms : Nat) : Prop :=
  ∀ (l : Launch) (D : va_G) (ck : Nat → ClassId) (h0 sz : Nat), Met l (my q) (wsM q) { frames := mf q, cells := mc, slots := ms, locals := mo q } (va_Pc [.ref h0] (fun U => U.heap.size = sz ∧ va_P D vwCl [(h0, .inr (ci, fs))] U.heap ∧ va_K D vwCl (tysOf ck) U ∧ va_D (fun _ => True) [(h0, .inr (ci, fs))] ∧ NST U))
    (va_Qv (fun _ : Nat → Nat => True) (fun a t => va_P D vwCl (Ws ck h0 a) t.heap ∧ va_D (va_A [(h0, .inr (ci, fs))] sz) (Ws ck h0 a)) (va_A [(h0, .inr (ci, fs))] sz)) mc ms (va_A [(h0, .inr (ci, fs))] sz)
section CON
variable {q : MI} {p : Program} {l : Launch} {e : Env} {R : Room} {s : State} {m : MethodId} {args : Array Value} {below : List Frame} {meth : Method} {c : Code} {Q : State → Prop} {D : va_G} {ck : Nat → ClassId} {A : Nat → Prop} {pc cells slots : Nat} {L : List (Nat × Value)} {st : List Value} {ws : va_W}
theorem k_aload {i j a : Nat} {f : Fin 4} (X : KX q p s m args c D ck A) (hd : decode (mb q) pc = .ok (.aload_n f, 1)) (hf : (f : Nat) = i) (hL : L[j]? = some (i, .ref a)) (k : KW q p l e R s m args below meth c Q D A (pc + 1) L (.ref a :: st) ws cells slots) : KW q p l e R s m args below meth c Q D A pc L st ws cells slots :=
  fun H locs ls P Dd S B => lv_aload_n X.1 X.2.1 hd hf (lv_at B j hL) (k H locs ls P Dd S B)
theorem k_iload {i j : Nat} {x : Int32} {f : Fin 4} (X : KX q p s m args c D ck A) (hd : decode (mb q) pc = .ok (.iload_n f, 1)) (hf : (f : Nat) = i) (hL : L[j]? = some (i, .int x)) (k : KW q p l e R s m args below meth c Q D A (pc + 1) L (.int x :: st) ws cells slots) : KW q p l e R s m args below meth c Q D A pc L st ws cells slots :=
  fun H locs ls P Dd S B => lv_iload_n X.1 X.2.1 hd hf (lv_at B j hL) (k H locs ls P Dd S B)
theorem k_istore {i : Nat} {x : Int32} {f : Fin 4} {L' : List (Nat × Value)} (X : KX q p s m args c D ck A) (hd : decode (mb q) pc = .ok (.istore_n f, 1)) (hf : (f : Nat) = i) (hn : i < mn q) (hL : (i, Value.int x) :: L.filter (fun q => !(q.1 == i) && !(q.1 + 1 == i && q.2.category == 2)) = L') (k : KW q p l e R s m args below meth c Q D A (pc + 1) L' st ws cells slots) : KW q p l e R s m args below meth c Q D A pc L (.int x :: st) ws cells slots :=
  fun H locs ls P Dd S B => lv_istore_n X.1 X.2.1 hd hf B hn hL (fun ls' B' => k H locs ls' P Dd S B')
theorem k_astore {i : Nat} {x : Nat} {f : Fin 4} {L' : List (Nat × Value)} (X : KX q p s m args c D ck A) (hd : decode (mb q) pc = .ok (.astore_n f, 1)) (hf : (f : Nat) = i) (hn : i < mn q) (hL : (i, Value.ref x) :: L.filter (fun q => !(q.1 == i) && !(q.1 + 1 == i && q.2.category == 2)) = L') (k : KW q p l e R s m args below meth c Q D A (pc + 1) L' st ws cells slots) : KW q p l e R s m args below meth c Q D A pc L (.ref x :: st) ws cells slots :=
  fun H locs ls P Dd S B => lv_astore_n X.1 X.2.1 hd hf B hn hL (fun ls' B' => k H locs ls' P Dd S B')
theorem k_iinc {i j : Nat} {n : Int} {x v : Int32} {L' : List (Nat × Value)} (X : KX q p s m args c D ck A) (hd : decode (mb q) pc = .ok (.iinc i n, 3)) (hk : L[j]? = some (i, .int x)) (hv : x + Int32.ofInt n = v) (hn : i < mn q) (hL : (i, Value.int v) :: L.filter (fun q => !(q.1 == i) && !(q.1 + 1 == i && q.2.category == 2)) = L') (k : KW q p l e R s m args below meth c Q D A (pc + 3) L' st ws cells slots) : KW q p l e R s m args below meth c Q D A pc L st ws cells slots :=
  fun H locs ls P Dd S B => lv_iinc X.1 X.2.1 hd B hk hv hn hL (fun ls' B' => k H locs ls' P Dd S B')
theorem k_bipush {n : Int} (v : Int32) (X : KX q p s m args c D ck A) (hd : decode (mb q) pc = .ok (.bipush n, 2)) (hv : (Int8.ofInt n).toInt32 = v) (k : KW q p l e R s m args below meth c Q D A (pc + 2) L (.int v :: st) ws cells slots) : KW q p l e R s m args below meth c Q D A pc L st ws cells slots :=
  fun H locs ls P Dd S B => lv_bipush X.1 X.2.1 hd hv (k H locs ls P Dd S B)
theorem k_sipush {n : Int} (v : Int32) (X : KX q p s m args c D ck A) (hd : decode (mb q) pc = .ok (.sipush n, 3)) (hv : (Int16.ofInt n).toInt32 = v) (k : KW q p l e R s m args below meth c Q D A (pc + 3) L (.int v :: st) ws cells slots) : KW q p l e R s m args below meth c Q D A pc L st ws cells slots :=
  fun H locs ls P Dd S B => lv_sipush X.1 X.2.1 hd hv (k H locs ls P Dd S B)
theorem k_iconst {n : Int} (v : Int32) (X : KX q p s m args c D ck A) (hd : decode (mb q) pc = .ok (.iconst n, 1)) (hv : Int32.ofInt n = v) (k : KW q p l e R s m args below meth c Q D A (pc + 1) L (.int v :: st) ws cells slots) : KW q p l e R s m args below meth c Q D A pc L st ws cells slots :=
  fun H locs ls P Dd S B => lv_iconst X.1 X.2.1 hd hv (k H locs ls P Dd S B)
theorem k_ldc2 {ix : Nat} {v : Int64} (X : KX q p s m args c D ck A) (hd : decode (mb q) pc = .ok (.ldc2_w ix, 3)) (hl : Cond.constantLong (my q).cls ix v ∈ gt) (k : KW q p l e R s m args below meth c Q D A (pc + 3) L (.long v :: st) ws cells slots) : KW q p l e R s m args below meth c Q D A pc L st ws cells slots :=
  fun H locs ls P Dd S B => lv_ldc2 X.1 X.2.1 X.2.2.2.1 (X.2.2.2.2.1 _ hl) hd (k H locs ls P Dd S B)
theorem k_dup {v : Value} (X : KX q p s m args c D ck A) (hd : decode (mb q) pc = .ok (.dup, 1)) (hv : v.category = 1) (k : KW q p l e R s m args below meth c Q D A (pc + 1) L (v :: v :: st) ws cells slots) : KW q p l e R s m args below meth c Q D A pc L (v :: st) ws cells slots :=
  fun H locs ls P Dd S B => lv_dup X.1 X.2.1 hd hv (k H locs ls P Dd S B)
theorem k_icmp_ge {x y : Int32} {off : Int} (tgt : Nat) (X : KX q p s m args c D ck A) (hd : decode (mb q) pc = .ok (.if_icmp .ge off, 3)) (ht : (pc : Int) + off = (tgt : Int)) (kt : y ≤ x → KW q p l e R s m args below meth c Q D A tgt L st ws cells slots) (kf : ¬ y ≤ x → KW q p l e R s m args below meth c Q D A (pc + 3) L st ws cells slots) : KW q p l e R s m args below meth c Q D A pc L (.int y :: .int x :: st) ws cells slots :=
  fun H locs ls P Dd S B => lv_icmp_ge X.1 X.2.1 hd ht (fun z => kt z H locs ls P Dd S B) (fun z => kf z H locs ls P Dd S B)
theorem k_goto {off : Int} (tgt : Nat) (X : KX q p s m args c D ck A) (hd : decode (mb q) pc = .ok (.goto off, 3)) (ht : (pc : Int) + off = (tgt : Int)) (k : KW q p l e R s m args below meth c Q D A tgt L st ws cells slots) : KW q p l e R s m args below meth c Q D A pc L st ws cells slots :=
  fun H locs ls P Dd S B => lv_goto X.1 X.2.1 hd ht (k H locs ls P Dd S B)
theorem k_obj {ix a : Nat} (X : KX q p s m args c D ck A) (hd : decode (mb q) pc = .ok (.invokespecial ix, 3)) (hl : Cond.methodLink (my q).cls ix objectInit ∈ gt) (hf : 1 ≤ R.frames) (hlo : (st.map fun v => v.category).sum + 12 ≤ R.locals) (k : KW q p l e R s m args below meth c Q D A (pc + 3) L st ws cells slots) : KW q p l e R s m args below meth c Q D A pc L (.ref a :: st) ws cells slots := by
  intro H locs ls P Dd S B
  refine W.objInit X.1 X.2.1 X.2.2.2.1 (X.2.2.2.2.1 _ hl) (X.2.2.2.2.1 _ oi_inst) (X.2.2.2.2.1 _ oi_code) rfl (B.1.trans X.2.2.1.symm) rfl hd hf ?_ (W.eq (g2 := F0 m (pc + 3) ls st) rfl (k H locs ls P Dd S B))
  show 2 * 0 + _ + 12 ≤ _
  omega
/-- a fresh row -/
theorem k_newT {ty : FieldType} {at0 : ArrayType} {n : Int32} {N : Nat} {a0 : vp_A} {cA0 : ClassId} (X : KX q p s m args c D ck A) (hd : decode (mb q) pc = .ok (.newarray at0, 2)) (hty : newarray.typeOf at0 = ty) (hac : Cond.arrayClass ty ∈ gt) (hck : ∀ cA : ClassId, s.vm.findClass ("[" ++ ty.toString) = some cA → cA = cA0) (ha : ∀ cA : ClassId, vp_cell cA a0 = arrV cA N (fun _ => defaultValue ty)) (hn : ¬ n < 0) (hN : n.toNatClampNeg = N) (hby : N * componentBytes ty ≤ 536870912) (hc : cells + 1 ≤ R.cells) (hs : slots + N ≤ R.slots)
    (k : ∀ a : Nat, KW q p l e R s m args below meth c Q D A (pc + 2) L (.ref a :: st) (ws ++ [(a, .inl (cA0, a0))]) (cells + 1) (slots + N)) : KW q p l e R s m args below meth c Q D A pc L (.int n :: st) ws cells slots := by
  intro H locs ls P Dd S B
  subst hty
  refine va_newaK X.1 X.2.1 (atype := at0) (X.2.2.2.2.1 _ hac) rfl hd rfl hn hN hby hc hs rfl fun H1 cA e1 z1 o1 hAr hNm => ?_
  have hcA := hck cA hNm
  subst hcA
  have hk : ∀ (k : Nat) (x : Nat × va_E), ws[k]? = some x → H1[x.1]? = H[x.1]? := fun k x hx => o1 x.1 ((P k x hx).lt)
  refine k H.size H1 locs ls ((P.kept hk).app (fun k x hx => ?_)) (Dd.push P rfl (X.2.2.2.2.2.2.2 _ S.1)) ⟨Nat.le_trans S.1 (by omega), fun x h1 h2 => (o1 x (Nat.lt_of_lt_of_le h1 S.1)).trans (S.2.1 x h1 h2), S.2.2⟩ B
  have hz : k < 1 := (List.getElem?_eq_some_iff.mp hx).1
  rw [show k = 0 by omega] at hx
  cases hx
  show H1[H.size]? = some (vp_cell _ _)
  rw [ha]
  exact e1
theorem k_newI {n : Int32} (N : Nat) (X : KX q p s m args c D ck A) (hd : decode (mb q) pc = .ok (.newarray .int, 2)) (hn : ¬ n < 0) (hN : n.toNatClampNeg = N) (hby : N * 4 ≤ 536870912) (hc : cells + 1 ≤ R.cells) (hs : slots + N ≤ R.slots)
    (k : ∀ a : Nat, KW q p l e R s m args below meth c Q D A (pc + 2) L (.ref a :: st) (ws ++ [(a, .inl (ck 0, N, .inl (fun _ => 0)))]) (cells + 1) (slots + N)) : KW q p l e R s m args below meth c Q D A pc L (.int n :: st) ws cells slots :=
  k_newT (ty := .int) X hd rfl ac_int (fun cA h => Option.some.inj (h.symm.trans (va_nm_int ((X.2.2.2.2.2.1.2 0 _ rfl).2)))) (fun _ => rfl) hn hN hby hc hs k
theorem k_newL {n : Int32} (N : Nat) (X : KX q p s m args c D ck A) (hd : decode (mb q) pc = .ok (.newarray .long, 2)) (hn : ¬ n < 0) (hN : n.toNatClampNeg = N) (hby : N * 8 ≤ 536870912) (hc : cells + 1 ≤ R.cells) (hs : slots + N ≤ R.slots)
    (k : ∀ a : Nat, KW q p l e R s m args below meth c Q D A (pc + 2) L (.ref a :: st) (ws ++ [(a, .inl (ck 1, N, .inr (.inl (fun _ => 0))))]) (cells + 1) (slots + N)) : KW q p l e R s m args below meth c Q D A pc L (.int n :: st) ws cells slots :=
  k_newT (ty := .long) X hd rfl ac_long (fun cA h => Option.some.inj (h.symm.trans (va_nm_long ((X.2.2.2.2.2.1.2 1 _ rfl).2)))) (fun _ => rfl) hn hN hby hc hs k
theorem k_newZ {n : Int32} (N : Nat) (X : KX q p s m args c D ck A) (hd : decode (mb q) pc = .ok (.newarray .boolean, 2)) (hn : ¬ n < 0) (hN : n.toNatClampNeg = N) (hby : N * 1 ≤ 536870912) (hc : cells + 1 ≤ R.cells) (hs : slots + N ≤ R.slots)
    (k : ∀ a : Nat, KW q p l e R s m args below meth c Q D A (pc + 2) L (.ref a :: st) (ws ++ [(a, .inl (ck 2, N, .inl (fun _ => 0)))]) (cells + 1) (slots + N)) : KW q p l e R s m args below meth c Q D A pc L (.int n :: st) ws cells slots :=
  k_newT (ty := .boolean) X hd rfl ac_boolean (fun cA h => Option.some.inj (h.symm.trans (va_nm_boolean ((X.2.2.2.2.2.1.2 2 _ rfl).2)))) (fun _ => rfl) hn hN hby hc hs k
/-- a fresh object -/
theorem k_new {C0 : String} {T : u_T} {N ci idx : Nat} {fs : List Value} {ty : Nat → FieldType} (X : KX q p s m args c D ck A) (hd : decode (mb q) pc = .ok (.new idx, 3)) (hcl : vwCl[ci]? = some (C0, T, N)) (hla : ∀ w ∈ u_ws C0 T N, w ∈ gt) (hty : ∀ k, k < N → parseFieldDescriptor (T k).2.2.1 = some (ty k)) (hlk : Cond.classLink (my q).cls idx C0 ∈ gt) (hin : Cond.instantiable C0 N ∈ gt) (hini : Cond.initialized C0 ∈ gt) (hfs : ∀ j, j < N → defaultValue (ty j) = vp_V fs j) (hc : cells + 1 ≤ R.cells) (hs : slots + N ≤ R.slots)
    (k : ∀ a : Nat, KW q p l e R s m args below meth c Q D A (pc + 3) L (.ref a :: st) (ws ++ [(a, .inr (ci, fs))]) (cells + 1) (slots + N)) : KW q p l e R s m args below meth c Q D A pc L st ws cells slots := by
  intro H locs ls P Dd S B
  obtain ⟨x1, x2, x3, x4, x5, x6, x7, x8⟩ := X
  exact va_new x1 x2 x5 hla ty hty x4 (x5 _ hlk) (x5 _ hin) (x5 _ hini) x6 P Dd S x8 hcl hfs hc hs hd (fun a H1 P1 D1 S1 => k a H1 locs ls P1 D1 S1 B)
/-- a field of the object that is made (it is the first cell) -/
theorem k_putF {C0 : String} {T : u_T} {N ci idx a : Nat} {fs fs' : List Value} {ty : FieldType} {ty0 : Nat → FieldType} {v : Value} (j : Nat) (X : KX q p s m args c D ck A) (hnm0 : meth.name = "<init>") (hd : decode (mb q) pc = .ok (.putfield idx, 3)) (hcl : vwCl[ci]? = some (C0, T, N)) (hla : ∀ w ∈ u_ws C0 T N, w ∈ gt) (hty : ∀ k, k < N → parseFieldDescriptor (T k).2.2.1 = some (ty0 k)) (hnm : ∀ a, a < N → ∀ b, b < N → a ≠ b → (T a).2.1 ≠ (T b).2.1) (hj : j < N) (hl : Cond.fieldLink (my q).cls idx (T j).1 (T j).2.1 (T j).2.2.1 ∈ gt) (hfi : (T j).2.2.2 = true) (hde : (T j).1 = (my q).cls) (hp : parseFieldDescriptor (T j).2.2.1 = some ty) (hn : narrow ty v = v) (hfit : fits ty v = true) (hlen : j < fs.length) (hfs : fs.set j v = fs')
    (k : KW q p l e R s m args below meth c Q D A (pc + 3) L st ((a, .inr (ci, fs')) :: ws) cells slots) : KW q p l e R s m args below meth c Q D A pc L (v :: .ref a :: st) ((a, .inr (ci, fs)) :: ws) cells slots := by
  subst hfs
  intro H locs ls P Dd S B
  obtain ⟨x1, x2, x3, x4, x5, x6, x7, x8⟩ := X
  exact va_putF x1 x2 x5 hla ty0 hty hnm x4 x6 P Dd S 0 rfl hcl j hj (x5 _ hl) (fun _ z => z) hfi hnm0 hde hp hn hfit hlen hd (fun H1 locs1 P1 D1 S1 => k H1 locs1 ls P1 D1 S1 B)
theorem k_putN {C0 : String} {T : u_T} {N ci idx a : Nat} {fs fs' : List Value} {ty : FieldType} {ty0 : Nat → FieldType} {v : Value} (j : Nat) (X : KX q p s m args c D ck A) (hd : decode (mb q) pc = .ok (.putfield idx, 3)) (hcl : vwCl[ci]? = some (C0, T, N)) (hla : ∀ w ∈ u_ws C0 T N, w ∈ gt) (hty : ∀ k, k < N → parseFieldDescriptor (T k).2.2.1 = some (ty0 k)) (hnm : ∀ a, a < N → ∀ b, b < N → a ≠ b → (T a).2.1 ≠ (T b).2.1) (hj : j < N) (hl : Cond.fieldLink (my q).cls idx (T j).1 (T j).2.1 (T j).2.2.1 ∈ gt) (hfi : (T j).2.2.2 = false) (hp : parseFieldDescriptor (T j).2.2.1 = some ty) (hn : narrow ty v = v) (hfit : fits ty v = true) (hlen : j < fs.length) (hfs : fs.set j v = fs')
    (k : KW q p l e R s m args below meth c Q D A (pc + 3) L st ((a, .inr (ci, fs')) :: ws) cells slots) : KW q p l e R s m args below meth c Q D A pc L (v :: .ref a :: st) ((a, .inr (ci, fs)) :: ws) cells slots := by
  subst hfs
  intro H locs ls P Dd S B
  obtain ⟨x1, x2, x3, x4, x5, x6, x7, x8⟩ := X
  exact va_put x1 x2 x5 hla ty0 hty hnm x4 x6 P Dd S 0 rfl hcl j hj (x5 _ hl) (fun _ z => z) hfi hp hn hfit hlen hd (fun H1 locs1 P1 D1 S1 => k H1 locs1 ls P1 D1 S1 B)
theorem k_get {C0 : String} {T : u_T} {N ci idx a : Nat} {fs : List Value} {v : Value} (j : Nat) (X : KX q p s m args c D ck A) (hd : decode (mb q) pc = .ok (.getfield idx, 3)) (he : ws[0]? = some (a, .inr (ci, fs))) (hcl : vwCl[ci]? = some (C0, T, N)) (hla : ∀ w ∈ u_ws C0 T N, w ∈ gt) (hj : j < N) (hl : Cond.fieldLink (my q).cls idx (T j).1 (T j).2.1 (T j).2.2.1 ∈ gt) (hv : fs[j]? = some v)
    (k : KW q p l e R s m args below meth c Q D A (pc + 3) L (v :: st) ws cells slots) : KW q p l e R s m args below meth c Q D A pc L (.ref a :: st) ws cells slots := by
  intro H locs ls P Dd S B
  obtain ⟨x1, x2, x3, x4, x5, x6, x7, x8⟩ := X
  exact va_get x1 x2 x5 hla x4 x6 P 0 he hcl j hj (x5 _ hl) (fun _ z => z) hv hd (k H locs ls P Dd S B)
theorem k_iast {a n i : Nat} {ws' : va_W} {f : Nat → Int32} {x : Int32} (q0 : Nat) (X : KX q p s m args c D ck A) (hd : decode (mb q) pc = .ok (.iastore, 1)) (he : ws[q0]? = some (a, .inl (ck 0, n, .inl f))) (hi : i < n) (hn : n < 2 ^ 31) (hw : ws.set q0 (a, .inl (ck 0, n, .inl (upd f i x))) = ws')
    (k : KW q p l e R s m args below meth c Q D A (pc + 1) L st ws' cells slots) : KW q p l e R s m args below meth c Q D A pc L (.int x :: .int (nI i) :: .ref a :: st) ws cells slots := by
  intro H locs ls P Dd S B
  obtain ⟨x1, x2, x3, x4, x5, x6, x7, x8⟩ := X
  refine va_iast x1 x2 x6 P Dd S q0 0 he rfl (vi hi hn) hd (fun H1 locs1 P1 D1 S1 => ?_)
  rw [ci hi hn, hw] at P1 D1
  exact k H1 locs1 ls P1 D1 S1 B
/-- a constructor's call: its object is the last cell -/
theorem k_initB {q2 : MI} {b ci idx : Nat} {fs : List Value} {Ws : (Nat → ClassId) → Nat → (Nat → Nat) → va_W} {mc ms : Nat} (X : KX q p s m args c D ck A)
    (hr : ∀ H locs ls, PreS s H (va_Pc [.ref b] (fun U => U.heap.size = H.size ∧ va_P D vwCl [(b, .inr (ci, fs))] U.heap ∧ va_K D vwCl (tysOf ck) U ∧ va_D (fun _ => True) [(b, .inr (ci, fs))] ∧ NST U)) [.ref b] → lv_has ls (mn q) L → va_Run p l e R s m args below meth c H locs cells slots mc ms (F0 m pc ls (.ref b :: st)) st (va_Qv (fun _ : Nat → Nat => True) (fun a t => va_P D vwCl (Ws ck b a) t.heap ∧ va_D (va_A [(b, .inr (ci, fs))] H.size) (Ws ck b a)) (va_A [(b, .inr (ci, fs))] H.size) ([.ref b] : List Value).toArray) (va_A [(b, .inr (ci, fs))] H.size))
    (k : ∀ a : Nat → Nat, KW q p l e R s m args below meth c Q D A (pc + 3) L st (ws ++ Ws ck b a) (cells + mc) (slots + ms)) : KW q p l e R s m args below meth c Q D A pc L (.ref b :: st) (ws ++ [(b, .inr (ci, fs))]) cells slots := by
  intro H locs ls P Dd S B
  obtain ⟨x1, x2, x3, x4, x5, x6, x7, x8⟩ := X
  have hPc : va_P D vwCl [(b, .inr (ci, fs))] H := P.sub [ws.length] (last_fm _ _)
  have hDc : va_D (fun _ => True) [(b, Sum.inr (ci, fs))] := (Dd.sub [ws.length] rfl (last_get _ _)).weaken (fun _ _ _ _ => trivial)
  have hFc := va_free (wc := [(b, .inr (ci, fs))]) Dd S x8 [ws.length] (last_get _ _)
  refine va_callv (hr H locs ls ⟨fun a U g mk z => ?_, fun U hU hW => ⟨rfl, by rw [hU], by rw [hU]; exact hPc, va_K.moved hW.alike x6, hDc, x7.warm hW⟩⟩ B) S (fun z _ h => hFc z h) hFc (fun u t H1 locs1 ht hvm hw hB hz1 hk1 hS1 => ?_)
  · obtain ⟨z0, z1, z2, z3, z4, z5⟩ := z
    exact ⟨z0, z1, z2, va_K.moved (u := U) (U := U.calling g mk a) (Vm.Alike.refl U.vm) z3, z4, z5.same rfl⟩
  · obtain ⟨hP1, hD1⟩ := hB
    rw [ht] at hP1
    obtain ⟨P2, D2⟩ := va_join (wr := ws) (w1 := Ws ck b u) P Dd [ws.length] (List.range ws.length) (last_get _ _) (range_get _ _) (nd_range _) (fun i hi hi2 => by
      have h1 := List.mem_range.mp hi
      have h2 := List.mem_singleton.mp hi2
      omega) hk1 hFc hP1 hD1
    exact k u H1 locs1 ls P2 D2 hS1 B
theorem k_init {q2 : MI} {b ci idx : Nat} {fs : List Value} {Ws : (Nat → ClassId) → Nat → (Nat → Nat) → va_W} {mc ms : Nat} (X : KX q p s m args c D ck A) (hM : KC q2 ci fs Ws mc ms) (ho : CO q2) (hret : mr q2 = none) (hin : Cond.instanceMethod (my q2) ∈ gt) (hnm : (my q2).name = "<init>") (hRf : mf q2 + 1 ≤ R.frames) (hRl : 8 + (mn q2 + 11) + mo q2 ≤ R.locals) (hl : Cond.methodLink (my q).cls idx (my q2) ∈ gt) (hp0 : mp q2 = 0) (hd : decode (mb q) pc = .ok (.invokespecial idx, 3)) (hst : (st.map fun v => v.category).sum ≤ 8) (hc : cells + mc ≤ R.cells) (hs : slots + ms ≤ R.slots)
    (k : ∀ a : Nat → Nat, KW q p l e R s m args below meth c Q D A (pc + 3) L st (ws ++ Ws ck b a) (cells + mc) (slots + ms)) : KW q p l e R s m args below meth c Q D A pc L (.ref b :: st) (ws ++ [(b, .inr (ci, fs))]) cells slots := by
  refine k_initB (q2 := q2) (idx := idx) X (fun H locs ls hpre B => ?_) k
  obtain ⟨x1, x2, x3, x4, x5, x6, x7, x8⟩ := X
  exact va_runI (As := []) (rest := st) ⟨x1, x2, x3, x4, x5⟩ (hM l D ck b H.size) ⟨callB_of (mp q2) x5 (co_good ho) (by unfold wsM; rw [hret]) rfl rfl (x5 _ ho.2.1) (x5 _ hl) ho.2.2 ⟨hRf, hRl⟩, hnm, x5 _ hin⟩ hpre rfl hp0.symm B.1 rfl (lv_room hst) hd ⟨hc, hs⟩
theorem k_initN {q2 : MI} {b ci idx : Nat} {host : String} {fs : List Value} {Ws : (Nat → ClassId) → Nat → (Nat → Nat) → va_W} {mc ms : Nat} (X : KX q p s m args c D ck A) (hM : KC q2 ci fs Ws mc ms) (ho : CO q2) (hret : mr q2 = none) (hin : Cond.instanceMethod (my q2) ∈ gt) (hnm : (my q2).name = "<init>") (hRf : mf q2 + 1 ≤ R.frames) (hRl : 8 + (mn q2 + 11) + mo q2 ≤ R.locals) (hl : ((my q).cls, idx, my q2, host) ∈ nestM) (hp0 : mp q2 = 0) (hd : decode (mb q) pc = .ok (.invokespecial idx, 3)) (hst : (st.map fun v => v.category).sum ≤ 8) (hc : cells + mc ≤ R.cells) (hs : slots + ms ≤ R.slots)
    (k : ∀ a : Nat → Nat, KW q p l e R s m args below meth c Q D A (pc + 3) L st (ws ++ Ws ck b a) (cells + mc) (slots + ms)) : KW q p l e R s m args below meth c Q D A pc L (.ref b :: st) (ws ++ [(b, .inr (ci, fs))]) cells slots := by
  refine k_initB (q2 := q2) (idx := idx) X (fun H locs ls hpre B => ?_) k
  obtain ⟨x1, x2, x3, x4, x5, x6, x7, x8⟩ := X
  exact va_runIN (As := []) (rest := st) ⟨x1, x2, x3, x4, x5⟩ (hM l D ck b H.size) ⟨va_cnB (mp q2) x5 (co_good ho) (by unfold wsM; rw [hret]) rfl rfl (x7.2 _ hl) (x5 _ ho.2.1) ho.2.2 ⟨hRf, hRl⟩, hnm, x5 _ hin⟩ hpre rfl hp0.symm B.1 rfl (lv_room hst) hd ⟨hc, hs⟩
theorem k_vret {Ws : (Nat → Nat) → va_W} (X : KX q p s m args c D ck A) (hr : meth.sig.returnType = none) (hlk : meth.locks = false) (hd : decode (mb q) pc = .ok (.return_, 1)) (a : Nat → Nat) (he : ws = Ws a) : KW q p l e R s m args below meth c (MQ below (va_Qv (fun _ : Nat → Nat => True) (fun a t => va_P D vwCl (Ws a) t.heap ∧ va_D A (Ws a)) A) args s cells slots A) D A pc L [] ws cells slots := by
  subst he
  intro H locs ls P Dd S B
  exact W.vret X.1 X.2.1 hr (fun t ht hW => ⟨⟨a, rfl, trivial, by rw [ht]; exact P, Dd⟩, S.F ht⟩) S.2.2 hd hlk
theorem k_cells {ce sl : Nat} (hc : cells = ce) (hs : slots = sl) (k : KW q p l e R s m args below meth c Q D A pc L st ws ce sl) : KW q p l e R s m args below meth c Q D A pc L st ws cells slots := by
  subst hc; subst hs; exact k
theorem k_ws {ws' : va_W} (h : ws = ws') (k : KW q p l e R s m args below meth c Q D A pc L st ws' cells slots) : KW q p l e R s m args below meth c Q D A pc L st ws cells slots := by
  subst h; exact k
theorem k_hd {x : Nat × va_E} {t : va_W} (k : KW q p l e R s m args below meth c Q D A pc L st (x :: (ws ++ t)) cells slots) : KW q p l e R s m args below meth c Q D A pc L st ((x :: ws) ++ t) cells slots := k
end CON
theorem KC.of {q : MI} {ci : Nat} {fs : List Value} {Ws : (Nat → ClassId) → Nat → (Nat → Nat) → va_W} {mc ms : Nat} (hy : plainName (my q).cls = true) (hr0 : mr q = none) (hname : (my q).name = "<init>") (hlen : 1 ≤ mn q)
    (k : ∀ (p : Program) (l : Launch) (e : Env) (s : State) (m : MethodId) (args : Array Value) (below : List Frame) (meth : Method) (c : Code) (D : va_G) (ck : Nat → ClassId) (h0 : Nat) (A : Nat → Prop), KX q p s m args c D ck A → meth.name = "<init>" → meth.sig.returnType = none → meth.locks = false →
      KW q p l e { frames := mf q, cells := mc, slots := ms, locals := mo q } s m args below meth c (MQ below (va_Qv (fun _ : Nat → Nat => True) (fun a t => va_P D vwCl (Ws ck h0 a) t.heap ∧ va_D A (Ws ck h0 a)) A) args s mc ms A) D A 0 [(0, .ref h0)] [] [(h0, .inr (ci, fs))] 0 0) : KC q ci fs Ws mc ms := by
  intro l D ck h0 sz
  refine Met.ofW (cc := mb q) (maxL := mn q) (ret := mr q) hy rfl ?_
  intro p e s m args below meth c s₁ B hml hv
  obtain ⟨rfl, hsz, hP, hK, hD0, hN⟩ := hv
  have hts := atoms_spec (ws := wsM q) B.pre
  subst hsz
  have hD := hD0.self (sz := s.heap.size)
  have X : KX q p s m ([.ref h0] : List Value).toArray c D ck (va_A [(h0, .inr (ci, fs))] s.heap.size) := ⟨B.exec, B.bytes, hml, findClass_of_methodNamed B.named, fun w hw => hts w (List.mem_cons_of_mem _ hw), hK, hN, fun z hz => Or.inr hz⟩
  rw [lg_entry_eq]
  exact k p l e s m _ below meth c D ck h0 _ X ((name_of_methodNamed B.named B.method).1.trans hname) (B.returns.trans hr0) B.notSynchronized s.heap [] _ hP hD va_S.rf (lv_entry [.ref h0] (n := mn q) hlen)
