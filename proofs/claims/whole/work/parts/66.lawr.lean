/-! THE CLAIM OUT OF ONE WALK OF THE LAW'S BODY. Your part is whole_start (and what it stands on); all else here is the same for every law, but numbers. -/
def R_law : String := "SnoresGoldLaw"
def lw_P (b : Addr) (xs : List Int32) (args : Array Value) (s : State) : Prop := args = #[.ref b] ∧ s.IntsAt b xs ∧ xs.length ≤ 320 ∧ (Jvm.Cond.and given_1 narrow_1).before args s = true
def lw_Q (_ : Array Value) (s : State) (o : Outcome) (t : State) : Prop := o = .returned (some (.int 1)) ∧ Framed s o t [] 76 1931
def lw_Z (below : List Frame) (a : Array Value) (s : State) : State → Prop := fun t => ∃ o, t.status = .running ∧ Ended t below o ∧ lw_Q a s o t
/-- the law's own end, with 1 on the stack, nothing written that was there before, its room as the claim has it -/
theorem lw_ret {p : Program} {l : Launch} {e : Env} {s : State} {m : MethodId} {below : List Frame} {meth : Method} {c : Code} {b : Nat} (hx : p.tables.exec = Jvm.exec) (hb : c.code = code) (hr : meth.sig.returnType = ret) (hlocks : meth.locks = false) {pc : Nat} {H : Heap} {ls : Array Slot} (hdg : decode code pc = .ok (.ireturn, 1)) : W p l e room_1 s m #[Value.ref b] below meth c H [] 76 1931 (lw_Z below #[Value.ref b] s) (F0 m pc ls [.int 1]) := by
  intro T hT X
  obtain ⟨fs, hret, hrun, hended, hW, hframe⟩ := X.leave (v := some (.int 1)) (hlocks := hlocks) (fun h => by rw [hr] at h; cases h)
  have hmeth' : T.vm.method? m = some meth := X.method'
  refine ⟨T.setFrames fs, ?_, .returned (some (.int 1)), hrun, hended, rfl, ⟨_, rfl⟩, hW, hframe⟩
  jvm_step X.here [X.here.top, hx, hb, hdg, hmeth', hr, ret, narrow_b1]
  (try refine ⟨rfl, ?_⟩); (try refine ⟨rfl, ?_⟩)
  first | (intro acts; rw [hret _ acts rfl rfl rfl]) | rw [hret _ _ rfl rfl rfl]
  exact Steps.refl _
/-- what holds at the law's entry: the machine, the code, the tables' words (any of lw_tbl by 'hts w (by decide +kernel)'), the script of L ints xs at the cell b, what the Statement gives of the start (any of its parts by flat_of_before) -/
def lw_At (p : Program) (s : State) (m : MethodId) (meth : Method) (c : Code) (b L : Nat) (xs : Nat → Int32) : Prop :=
  p.tables.exec = Jvm.exec ∧ c.code = code ∧ meth.sig.returnType = ret ∧ c.maxLocals = 4 ∧ s.vm.findClass R_law = some m.cls ∧ (∀ w ∈ lw_tbl, w.before #[Value.ref b] s = true) ∧ va_X b L xs s s.heap ∧ b < s.heap.size ∧ meth.locks = false ∧ (Jvm.Cond.and given_1 narrow_1).before #[Value.ref b] s = true
/-! THE LAW: its rules -/
abbrev mL : MI := (⟨RL, "law", "([I)Z"⟩, cL_law, 4, some .boolean, 1, 0, 0)
def up (s : State) : Nat → Prop := fun q => s.heap.size ≤ q
def ZA (ad : Nat → Nat) (s : State) : Prop := va_Z "SnoresGold" "DEED_SIGNS" "[C" (.ref (ad 99)) (up s) s s.heap ∧ va_T .char (ad 99) 9 (fun j => .int (dsg j)) (up s) s s.heap
def LX (p : Program) (s : State) (m : MethodId) (c : Code) (D : va_G) (ck : Nat → ClassId) (ad : Nat → Nat) (b L : Nat) (xs : Nat → Int32) : Prop :=
  KX mL p s m #[Value.ref b] c D ck (up s) ∧ va_X b L xs s s.heap ∧ b < s.heap.size ∧ Inj ad ∧ (∀ q, Aof ad q → up s q) ∧ ZA ad s ∧ L ≤ 320
def LL (ad : Nat → Nat) (b i : Nat) : List (Nat × Value) := [(3, .int (nI i)), (2, .ref (ad 51)), (1, .ref (ad 0)), (0, .ref b)]
def LW (p : Program) (l : Launch) (e : Env) (s : State) (m : MethodId) (below : List Frame) (meth : Method) (c : Code) (D : va_G) (ck : Nat → ClassId) (ad : Nat → Nat) (b i pc : Nat) (st : List Value) (h : Wd) : Prop :=
  KW mL p l e room_1 s m #[Value.ref b] below meth c (lw_Z below #[Value.ref b] s) D (up s) pc (LL ad b i) st (mkw ad ck h) 76 1931
section LAW
variable {p : Program} {l : Launch} {e : Env} {s : State} {m : MethodId} {below : List Frame} {meth : Method} {c : Code} {D : va_G} {ck : Nat → ClassId} {ad : Nat → Nat} {b L i pc : Nat} {xs : Nat → Int32} {st : List Value} {h : Wd}
theorem l_iadd {x y : Int32} (X : LX p s m c D ck ad b L xs) (hd : decode cL_law pc = .ok (.iadd, 1)) (k : LW p l e s m below meth c D ck ad b i (pc + 1) (.int (x + y) :: st) h) : LW p l e s m below meth c D ck ad b i pc (.int y :: .int x :: st) h :=
  fun H locs ls P Dd S B => lv_iadd X.1.1 X.1.2.1 hd (k H locs ls P Dd S B)
theorem l_sld {j : Nat} (X : LX p s m c D ck ad b L xs) (hj : j < L) (hd : decode cL_law pc = .ok (.iaload, 1)) (k : LW p l e s m below meth c D ck ad b i (pc + 1) (.int (xs j) :: st) h) : LW p l e s m below meth c D ck ad b i pc (.int (nI j) :: .ref b :: st) h := by
  intro H locs ls P Dd S B
  have hL := X.2.2.2.2.2.2
  refine va_sld X.1.1 X.1.2.1 X.2.1 X.2.2.1 (Nat.not_le.mpr X.2.2.1) S (i := nI j) (vi hj (by omega)) hd ?_
  rw [ci hj (by omega)]
  exact k H locs ls P Dd S B
/-- an argument out of the script -/
theorem l_arg {cc : Int} (w : Nat) (X : LX p s m c D ck ad b L xs) (d0 : decode cL_law pc = .ok (.aload_n 0, 1)) (d1 : decode cL_law (pc + 1) = .ok (.iload_n 3, 1)) (d2 : decode cL_law (pc + 2) = .ok (.iconst cc, 1)) (d3 : decode cL_law (pc + 3) = .ok (.iadd, 1)) (d4 : decode cL_law (pc + 4) = .ok (.iaload, 1)) (hc : Int32.ofInt cc = nI w) (hi : i + 5 ≤ L) (hw : w < 5) (k : LW p l e s m below meth c D ck ad b i (pc + 5) (.int (xs (i + w)) :: st) h) : LW p l e s m below meth c D ck ad b i pc st h := by
  refine k_aload (pc := pc) (j := 3) X.1 d0 rfl rfl ?_
  refine k_iload (pc := pc + 1) (j := 0) X.1 d1 rfl rfl ?_
  refine k_iconst (pc := pc + 2) (nI w) X.1 d2 hc ?_
  refine l_iadd (pc := pc + 3) X d3 ?_
  rw [nI_add]
  exact l_sld (pc := pc + 4) X (by omega) d4 k
theorem l_if_eq {x : Int32} {off : Int} (tgt : Nat) (X : LX p s m c D ck ad b L xs) (hd : decode cL_law pc = .ok (.ifCond .eq off, 3)) (ht : (pc : Int) + off = (tgt : Int)) (kt : x = 0 → LW p l e s m below meth c D ck ad b i tgt st h) (kf : ¬ x = 0 → LW p l e s m below meth c D ck ad b i (pc + 3) st h) : LW p l e s m below meth c D ck ad b i pc (.int x :: st) h :=
  fun H locs ls P Dd S B => lv_if_eq X.1.1 X.1.2.1 hd ht (fun z => kt z H locs ls P Dd S B) (fun z => kf z H locs ls P Dd S B)
/-- an argument that is true or false -/
def tf (x : Int32) : Int32 := if x = 0 then 0 else 1
theorem l_argB {cc o1 o2 : Int} (w : Nat) (X : LX p s m c D ck ad b L xs) (d0 : decode cL_law pc = .ok (.aload_n 0, 1)) (d1 : decode cL_law (pc + 1) = .ok (.iload_n 3, 1)) (d2 : decode cL_law (pc + 2) = .ok (.iconst cc, 1)) (d3 : decode cL_law (pc + 3) = .ok (.iadd, 1)) (d4 : decode cL_law (pc + 4) = .ok (.iaload, 1)) (d5 : decode cL_law (pc + 5) = .ok (.ifCond .eq o1, 3)) (ho1 : ((pc + 5 : Nat) : Int) + o1 = ((pc + 12 : Nat) : Int)) (d8 : decode cL_law (pc + 8) = .ok (.iconst 1, 1)) (d9 : decode cL_law (pc + 9) = .ok (.goto o2, 3)) (ho2 : ((pc + 9 : Nat) : Int) + o2 = ((pc + 13 : Nat) : Int)) (d12 : decode cL_law (pc + 12) = .ok (.iconst 0, 1)) (hc : Int32.ofInt cc = nI w) (hi : i + 5 ≤ L) (hw : w < 5) (k : LW p l e s m below meth c D ck ad b i (pc + 13) (.int (tf (xs (i + w))) :: st) h) : LW p l e s m below meth c D ck ad b i pc st h := by
  refine l_arg w X d0 d1 d2 d3 d4 hc hi hw ?_
  refine l_if_eq (pc := pc + 5) (pc + 12) X d5 ho1 (fun z => ?_) (fun z => ?_)
  · refine k_iconst (pc := pc + 12) 0 X.1 d12 (by decide) ?_
    rw [tf, if_pos z] at k
    exact k
  · refine k_iconst (pc := pc + 8) 1 X.1 d8 (by decide) ?_
    refine k_goto (pc := pc + 9) (pc + 13) X.1 d9 ho2 ?_
    rw [tf, if_neg z] at k
    exact k
theorem mkw_up (X : LX p s m c D ck ad b L xs) (g : Wd) : va_D (up s) (mkw ad ck g) := (mkw_D X.2.2.2.1).weaken (fun _ q _ hq => X.2.2.2.2.1 q.1 hq)
/-- a call of either object -/
theorem l_call {q2 : MI} {idx cj n kp : Nat} {as st0 fs : List Value} {v : Value} {h1 : Wd} {T : u_T} (X : LX p s m c D ck ad b L xs) (hc : Ct q2 (.ref kp :: as) h (some v) h1) (hv : CV q2) (hR : mf q2 + 1 ≤ 9 ∧ 8 + (mn q2 + 11) + mo q2 ≤ 334) (hl : Cond.methodLink RL idx (my q2) ∈ gt) (hd : decode cL_law pc = .ok (.invokevirtual idx, 3)) (hk : kp < 76) (hh : h kp = .inr (cj, fs)) (hcl : vwCl[cj]? = some ((my q2).cls, T, n)) (hn : as.length = mp q2) (hs : st0 = (as.map (vv ad)).reverse ++ .ref (ad kp) :: st) (hw : osum st ≤ 8)
    (k : LW p l e s m below meth c D ck ad b i (pc + 3) (vv ad v :: st) h1) : LW p l e s m below meth c D ck ad b i pc st0 h := by
  subst hs
  intro H locs ls P Dd S B
  obtain ⟨⟨x1, x2, x3, x4, x5, x6, x7, x8⟩, y1, y2, y3, y4, y5, y6⟩ := id X
  have hB : CallB room_1 s #[Value.ref b] RL idx (my q2) (mb q2) (mn q2) (mr q2) (wsM q2) (rmM q2) 0 0 (mp q2) := callB_of (mp q2) x5 (co_good hv.1) rfl rfl rfl (x5 _ hv.1.2.1) (x5 _ hl) hv.1.2.2 hR
  have run := va_runV (C := (my q2).cls) (b := ad kp) (As := as.map (vv ad)) (rest := st) (p := p) (l := l) (e := e) (below := below) (meth := meth) (H := H) (locs := locs) (cells := 76) (slots := 1931) (g := F0 m pc ls ((as.map (vv ad)).reverse ++ .ref (ad kp) :: st)) ⟨x1, x2, x3, x4, x5⟩ (hc l D ad ck y3) ⟨hB, x5 _ hv.2.1, x5 _ hv.2.2⟩ ⟨fb_IV, va_recv x6 P hcl (a := ad kp) (q0 := kp) (fs := fs.map (vv ad)) (by rw [mkw_get hk, hh]; rfl), fun U hU hW => ⟨rfl, by rw [hU]; exact P, va_K.moved hW.alike x6, x7.warm hW, by rw [hU]; exact ((y5.1.moved hW.alike).kept S.2.1).narrow y4, by rw [hU]; exact ((y5.2.moved hW.alike).kept S.2.1).narrow y4⟩⟩ rfl (by rw [List.length_map]; exact hn) B.1 rfl (lv_room hw) hd ⟨Nat.le_refl _, Nat.le_refl _⟩
  intro T1 hT XX
  obtain ⟨v1, st₀, t, T', Lo, h0, X', hL, e1, e2, ⟨⟨hv1, hIV⟩, hz, hk1⟩, stp⟩ := run T1 hT XX
  cases hv1
  rw [h0] at hz hk1
  obtain ⟨t2, a1, b1⟩ := k T'.heap (locs ++ Lo) ls (by rw [e1]; exact hIV.1) (mkw_up X h1)
    ⟨Nat.le_trans S.1 (by rw [e1]; exact hz), fun q g1 g2 => by rw [e1, hk1 q (Nat.lt_of_lt_of_le g1 S.1) (fun z => g2 (y4 q z))]; exact S.2.1 q g1 g2, fun q hq => by
      rcases List.mem_append.mp hq with z | z
      · exact S.2.2 q z
      · exact y4 _ (hL q z)⟩ B T' rfl X'
  exact ⟨t2, stp t2 a1, b1⟩
theorem l_eqI {x : Int32} {off : Int} (tgt : Nat) (X : LX p s m c D ck ad b L xs) (hd : decode cL_law pc = .ok (.if_icmp .eq off, 3)) (ht : (pc : Int) + off = (tgt : Int)) (k : LW p l e s m below meth c D ck ad b i tgt st h) : LW p l e s m below meth c D ck ad b i pc (.int x :: .int x :: st) h :=
  fun H locs ls P Dd S B => lv_icmp_eq X.1.1 X.1.2.1 hd ht (fun _ => k H locs ls P Dd S B) (fun z => absurd rfl z)
theorem l_eqL {x : Int64} {off : Int} (tgt : Nat) (X : LX p s m c D ck ad b L xs) (hd0 : decode cL_law pc = .ok (.lcmp, 1)) (hd : decode cL_law (pc + 1) = .ok (.ifCond .eq off, 3)) (ht : ((pc + 1 : Nat) : Int) + off = (tgt : Int)) (k : LW p l e s m below meth c D ck ad b i tgt st h) : LW p l e s m below meth c D ck ad b i pc (.long x :: .long x :: st) h := by
  intro H locs ls P Dd S B
  exact W.lcmp X.1.1 X.1.2.1 hd0 (lv_if_eq X.1.1 X.1.2.1 hd ht (fun _ => k H locs ls P Dd S B) (fun z => absurd ((lgc_eq x x).mpr rfl) z))
end LAW
